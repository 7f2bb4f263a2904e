import java.util.HashMap;
import java.util.Map;
import java.util.Random;
import java.util.TreeMap;

/**
 * Runs of 512 calls on new objects, the same on PlainHouse: every answer must be the same. The runs
 * come from fixed seeds. An argument (a number) tells other seeds to begin with, a second one how
 * many runs.
 */
public final class AgainstPlainTest {
  private static final int CALLS = 512;

  private final Random random;
  private final Bookingstree x = new Bookingstree();
  private final PlainHouse plain = new PlainHouse();
  private final StringBuilder log = new StringBuilder();
  private final int firsts;
  private final int lengths;
  private final int kinds;
  private final int rooms;
  private final int questions;
  private final int wrongs;
  private final boolean isFull;
  private static final Map<String, Integer> SEEN = new TreeMap<>();
  private static final Map<String, Integer> MOVES = new HashMap<>();

  private AgainstPlainTest(long seed) {
    random = new Random(seed);
    firsts = new int[] {6, 15, 30, 100}[random.nextInt(4)];
    lengths = new int[] {3, 6, 20}[random.nextInt(3)];
    kinds = 1 + random.nextInt(4);
    rooms = 1 + random.nextInt(6);
    questions = new int[] {20, 50, 75}[random.nextInt(3)];
    wrongs = new int[] {0, 3, 10}[random.nextInt(3)];
    isFull = random.nextInt(3) == 0;
  }

  private static int argument(String[] args, int place, int otherwise) {
    return args.length > place ? Integer.parseInt(args[place]) : otherwise;
  }

  public static void main(String[] args) {
    int begin = argument(args, 0, 1);
    int runs = argument(args, 1, 400);
    for (int seed = begin; seed < begin + runs; seed++) {
      String fault = new AgainstPlainTest(seed).run();
      if (fault != null) {
        System.out.println("run " + seed + ":\n" + fault);
        System.exit(1);
      }
    }
    for (String name : Runs.TOLD) {
      needSeen(name);
    }
    for (String name : Runs.ASKED) {
      needSeen(name);
    }
    if (runs >= 100 && !MOVES.keySet().containsAll(java.util.List.of("-1", "0", "1", "2"))) {
      System.out.println("moves() answered no more than " + MOVES);
      System.exit(1);
    }
    System.out.println(runs + " runs are alike; moves() " + MOVES + "; answers that threw nothing: "
        + SEEN);
  }

  private static void needSeen(String name) {
    if (!SEEN.containsKey(name)) {
      System.out.println(name + " never answered");
      System.exit(1);
    }
  }

  private String run() {
    for (int i = 0; i < CALLS; i++) {
      String name = name(i);
      int[] a = new int[Runs.arity(name)];
      for (int k = 0; k < a.length; k++) {
        a[k] = random.nextInt(100) < wrongs ? random.nextInt(130) - 10 : number(name, k, a);
      }
      String due = plain.answer(name, a);
      String got = Runs.answer(x, name, a);
      log.append(name).append(java.util.Arrays.toString(a)).append(" = ").append(got).append('\n');
      if (!due.equals(got)) {
        return log + "due is " + due;
      }
      count(name, got);
    }
    return null;
  }

  private static void count(String name, String got) {
    if (!got.startsWith("throws.")) {
      SEEN.merge(name, 1, Integer::sum);
    }
    if (name.equals("moves")) {
      MOVES.merge(got, 1, Integer::sum);
    }
  }

  private String name(int i) {
    if (i < rooms || random.nextInt(120) == 0) {
      return "room";
    }
    if (i < 4 + rooms && random.nextInt(3) == 0) {
      return "clean";
    }
    if (random.nextInt(100) < questions) {
      return Runs.ASKED[random.nextInt(Runs.ASKED.length)];
    }
    int dice = random.nextInt(100);
    if (dice < (isFull ? 70 : 40)) {
      return new String[] {"book", "hold", "queue", "group", "queue"}[random.nextInt(5)];
    }
    if (dice < (isFull ? 75 : 55)) {
      return "cancel";
    }
    return Runs.TOLD[1 + random.nextInt(Runs.TOLD.length - 1)];
  }

  private int stays() {
    return Math.max(1, plainHouse(1));
  }

  private int aStay() {
    int stays = stays();
    return random.nextBoolean() ? random.nextInt(stays)
        : Math.max(0, stays - 1 - random.nextInt(12));
  }

  /** A number as the call may take it for the argument at that place. */
  private int number(String name, int place, int[] a) {
    switch (name) {
      case "room": return random.nextInt(Math.min(3, kinds));
      case "clean": return random.nextInt(3);
      case "base": return place == 0 ? random.nextInt(3) : random.nextInt(501);
      case "pass": return 1 + random.nextInt(random.nextInt(4) == 0 ? 99 : 6);
      case "book": case "hold": case "queue": case "group": case "free": case "moves":
      case "price": return ofStayToBe(name, place, a);
      case "hinders": return place == 0 ? aRoom() : ofStayToBe(name, place, a);
      case "close": case "open": case "text": return place == 0 ? aRoom()
          : place == 1 ? random.nextInt(firsts) : Math.min(99, a[1] + random.nextInt(5));
      case "at": return place == 0 ? aRoom()
          : place == 1 ? random.nextInt(firsts) : random.nextInt(5);
      case "between": return place == 0 ? aRoom() : random.nextInt(100);
      case "move": return place == 0 ? aStay() : aRoom();
      case "ofStay": return place == 0 ? aStay() : random.nextInt(9);
      case "ofRoom": return place == 0 ? aRoom() : random.nextInt(7);
      case "pay": case "cancel": case "dealt": return aStay();
      case "shorten": case "lengthen": return place == 0 ? aStay() : 1 + random.nextInt(4);
      case "waiting": return random.nextInt(6);
      case "busy": return random.nextInt(firsts);
      case "house": return random.nextInt(14);
      case "dealing": return random.nextInt(3);
      case "odds": return random.nextInt(place == 0 ? firsts : place == 1 ? 6 : 11);
      case "oneRoom": return random.nextInt(4);
      default: return random.nextInt(2);
    }
  }

  private int aRoom() {
    return random.nextInt(Math.max(1, plainHouse(0)));
  }

  /** Not asked of the object: its 512 calls are those that are compared. */
  private int plainHouse(int what) {
    return Integer.parseInt(plain.answer("house", new int[] {what}));
  }

  private int ofStayToBe(String name, int place, int[] a) {
    switch (place) {
      case 0: return name.equals("price") ? random.nextInt(3)
          : random.nextInt(3) == 0 ? 3 : random.nextInt(Math.min(3, kinds));
      case 1: return random.nextInt(firsts);
      case 2: return 1 + random.nextInt(Math.max(1, Math.min(lengths, 100 - a[1])));
      case 3: return name.equals("group") ? 2 + random.nextInt(3)
          : 1 + random.nextInt(random.nextBoolean() ? 5 : 500);
      default: return name.equals("group") ? 1 + random.nextInt(5) : 1 + random.nextInt(40);
    }
  }
}
