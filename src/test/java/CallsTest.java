import java.util.ArrayList;
import java.util.Arrays;
import java.util.List;
import java.util.Random;

/**
 * An object is used for at most 512 calls: all is as promised up to and with the 512th, also where
 * all of them are TOLD, and where the house is then undone step by step to the first. The rows of
 * calls come from fixed seeds; what is due comes from PlainHouse.
 */
public final class CallsTest {
  private static final int CALLS = 512;
  private static final int SEEDS = 3;
  private static final int TRIES = 3;

  private final List<String> names = new ArrayList<>();
  private final List<int[]> given = new ArrayList<>();
  private final List<String> dues = new ArrayList<>();
  /** The checksum ahead of each call of the row, where it is looked at. */
  private final List<String> digests = new ArrayList<>();
  private final int rooms;
  private final Random random;

  /** A row of calls that are TOLD, all of them: none of them throws. */
  private CallsTest(long seed, int many, boolean isLookedAt) {
    random = new Random(seed);
    rooms = 2 + random.nextInt(5);
    PlainHouse plain = new PlainHouse();
    while (names.size() < many) {
      String name = nextName();
      int[] a = numbers(name);
      if (isLookedAt && digests.size() == names.size()) {
        digests.add(plain.answer("digest", new int[0]));
      }
      String due = plain.answer(name, a);
      if (!due.startsWith("throws.")) {
        names.add(name);
        given.add(a);
        dues.add(due);
      }
    }
  }

  public static void main(String[] args) {
    for (int seed = 1; seed <= SEEDS; seed++) {
      new CallsTest(seed, CALLS, false).allTold();
      new CallsTest(seed, CALLS / 2, false).undone();
      new CallsTest(seed, CALLS / 3, true).undoneAndLookedAt();
      new CallsTest(seed, CALLS - 1, false).eachAsTheLastOne();
    }
    new CallsTest(SEEDS + 1, CALLS, true).undoneAndLookedAt();
    onlyQuestions();
    onlyNines();
    onlyWhatThrows();
    theSameStepBackAndForth();
    behindTheLastOne();
    Check.end();
  }

  // ---- the row

  private String nextName() {
    if (names.size() < rooms) {
      return "room";
    }
    if (names.size() == rooms) {
      return "clean";
    }
    String[] often = {"book", "hold", "queue", "cancel"};
    return random.nextInt(3) > 0 ? often[random.nextInt(often.length)]
        : Runs.TOLD[1 + random.nextInt(Runs.TOLD.length - 1)];
  }

  private int[] numbers(String name) {
    int[] most = most(name);
    int[] a = new int[Runs.arity(name)];
    for (int k = 0; k < a.length; k++) {
      a[k] = k < most.length ? random.nextInt(most[k]) : 1 + random.nextInt(30);
    }
    if (name.equals("close")) {
      a[2] = a[1] + random.nextInt(2);
    }
    if (a.length >= 4 && a[2] == 0) {
      a[2] = 1;
    }
    return a;
  }

  private int[] most(String name) {
    int stays = Math.max(1, names.size());
    switch (name) {
      case "room": return new int[] {2};
      case "clean": return new int[] {3};
      case "base": return new int[] {3, 501};
      case "close": case "open": return new int[] {rooms, 30};
      case "book": case "hold": case "queue": return new int[] {4, 30, 6};
      case "group": return new int[] {4, 30, 5, 5};
      case "pay": case "cancel": return new int[] {stays};
      case "shorten": case "lengthen": return new int[] {stays, 3};
      case "move": return new int[] {stays, rooms};
      default: return new int[] {9};
    }
  }

  // ---- all of them are TOLD

  private Bookingstree made() {
    Bookingstree x = new Bookingstree();
    for (int i = 0; i < names.size(); i++) {
      Check.is(dues.get(i), Runs.answer(x, names.get(i), given.get(i)), what(i));
    }
    return x;
  }

  private String what(int i) {
    return "call " + (i + 1) + ", " + names.get(i) + Arrays.toString(given.get(i));
  }

  private void allTold() {
    Check.is(CALLS, names.size(), "the calls of the row");
    made();
  }

  private void undone() {
    Bookingstree x = made();
    for (int left = names.size() - 1; left >= 0; left--) {
      Check.is("" + left, Runs.answer(x, "undo", new int[0]), "18: undo of " + what(left));
    }
  }

  /** Each step back is the house that was there: a third of the calls each way, or all of them and
   * as many behind them (of which the document promises nothing any more). */
  private void undoneAndLookedAt() {
    Bookingstree x = made();
    for (int left = names.size() - 1; left >= 0; left--) {
      Check.is("" + left, Runs.answer(x, "undo", new int[0]), "18: undo of " + what(left));
      Check.is(digests.get(left), "" + x.digest(), "18: the house ahead of " + what(left));
    }
  }

  // ---- the 512th call

  private void eachAsTheLastOne() {
    for (String name : Runs.TOLD) {
      asTheLastOne(name);
    }
    for (String name : Runs.ASKED) {
      asTheLastOne(name);
    }
  }

  private void asTheLastOne(String name) {
    int tries = Runs.arity(name) == 0 ? 1 : TRIES;
    for (int i = 0; i < tries; i++) {
      PlainHouse plain = new PlainHouse();
      for (int k = 0; k < names.size(); k++) {
        plain.answer(names.get(k), given.get(k));
      }
      int[] a = Arrays.asList(Runs.TOLD).contains(name) ? numbers(name) : questions(name);
      Check.is(plain.answer(name, a), Runs.answer(made(), name, a),
          "the 512th call, " + name + Arrays.toString(a));
    }
  }

  private int[] questions(String name) {
    int[] a = new int[Runs.arity(name)];
    for (int k = 0; k < a.length; k++) {
      a[k] = random.nextInt(k == 0 ? 4 : 8);
    }
    return a;
  }

  // ---- 512 of the same

  private static void onlyQuestions() {
    Bookingstree x = new Bookingstree();
    x.room(0);
    x.queue(0, 10, 2, 5);
    x.queue(0, 11, 2, 6);
    x.book(0, 10, 2, 5);
    long digest = x.digest();
    for (int call = 6; call <= CALLS; call++) {
      Check.is(digest, x.digest(), "40: call " + call);
    }
  }

  private static void onlyNines() {
    Bookingstree x = new Bookingstree();
    Bookingstree y = new Bookingstree();
    for (int call = 1; call < CALLS; call++) {
      Check.is(-9, call % 2 == 0 ? x.blank() : x.tear(), "19, 20: call " + call);
      Check.is(call, y.knock(), "21: call " + call);
    }
    Check.is(CALLS - 1, x.house(10), "29: so often -9 was told");
    Check.is(CALLS, y.knock(), "21: the 512th knock");
  }

  private static void onlyWhatThrows() {
    Bookingstree x = new Bookingstree();
    for (int call = 1; call < CALLS; call++) {
      String due = call % 2 == 0 ? "throws.IllegalStateException"
          : "throws.IndexOutOfBoundsException";
      String name = call % 2 == 0 ? "undo" : "pay";
      Check.is(due, Runs.answer(x, name, new int[] {0}), name + ": call " + call);
    }
    Check.is(0, x.house(9), "29: nothing is TOLD");
  }

  /** As long as it is undone each time, there is no end of STAYS. */
  private static void theSameStepBackAndForth() {
    Bookingstree x = new Bookingstree();
    x.room(0);
    for (int call = 2; call < CALLS; call += 2) {
      Check.is(0, x.book(0, 5, 2, 9), "8: the same number, call " + call);
      Check.is(1, x.undo(), "18: call " + (call + 1));
    }
    Check.is("....................", x.text(0, 0), "26: the 512th call");
  }

  /** The document leaves it free; it is what README.md says. */
  private static void behindTheLastOne() {
    Bookingstree x = new Bookingstree();
    for (int call = 0; call < CALLS; call++) {
      x.base(0, call % 2);
    }
    Check.is(-1, x.base(0, 500), "the 513th that would be TOLD");
    Check.is(-1, x.room(0), "the next one");
    Check.is(CALLS, x.house(9), "none of them is on the row");
    Check.is(1, x.price(0, 0, 1), "none of them was carried out");
    Check.is(0, x.house(0), "none of them was carried out");
    Check.is(true, x.isSound(), "all is sound");
  }
}
