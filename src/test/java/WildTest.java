import java.util.Arrays;
import java.util.List;
import java.util.Random;

/**
 * Whatever a call is given, in whatever state, also long behind the 512th call: it answers, or
 * throws by itself what the document lets it throw. What throws changes nothing.
 */
public final class WildTest {
  private static final int[] WILD = {Integer.MIN_VALUE, Integer.MIN_VALUE + 1, -1000, -9, -2, -1, 0,
      1, 2, 3, 4, 5, 6, 7, 8, 9, 10, 19, 20, 21, 39, 40, 41, 98, 99, 100, 101, 102, 500, 501, 512,
      9999, 10000, Integer.MAX_VALUE - 100, Integer.MAX_VALUE - 1, Integer.MAX_VALUE};
  private static final List<String> NO_INDEX = List.of("room", "clean", "base", "pass", "book",
      "hold", "queue", "group", "undo", "waiting", "busy", "house", "free", "dealing", "moves",
      "price", "odds", "oneRoom");
  private static final List<String> NO_ARGUMENT = List.of("pay", "cancel", "move", "undo", "dealt");
  private static final List<String> STATE = List.of("room", "clean", "pass", "book", "hold",
      "queue", "group", "pay", "cancel", "shorten", "lengthen", "move", "undo");
  private static final List<String> NOTHING = List.of("redeal", "blank", "tear", "knock", "chosen",
      "isSound", "digest");

  private WildTest() {
  }

  public static void main(String[] args) {
    for (int seed = 1; seed <= 60; seed++) {
      run(new Random(seed), 2000, seed % 4 * 25);
    }
    manyStays();
    Check.end();
  }

  private static void run(Random random, int calls, int wilds) {
    Bookingstree x = new Bookingstree();
    int made = 0;
    for (int i = 0; i < calls; i++) {
      String[] names = random.nextInt(3) == 0 ? Runs.ASKED : Runs.TOLD;
      String name = names[random.nextInt(names.length)];
      int[] a = new int[Runs.arity(name)];
      for (int k = 0; k < a.length; k++) {
        a[k] = random.nextInt(100) < wilds ? WILD[random.nextInt(WILD.length)]
            : random.nextInt(k == 0 ? 6 : 20);
      }
      boolean isLookedAt = made + 3 <= 512 && random.nextInt(8) == 0;
      long before = isLookedAt ? x.digest() : 0;
      made += isLookedAt ? 3 : 1;
      try {
        Runs.tell(x, name, a);
      } catch (RuntimeException e) {
        String what = name + Arrays.toString(a) + " threw " + e;
        Check.is(true, Check.isThrownByItself(e) && mayThrow(name, e.getClass()), what);
        if (isLookedAt) {
          Check.is(before, x.digest(), what + " and changed something");
        }
      }
    }
  }

  private static boolean mayThrow(String name, Class<?> how) {
    if (NOTHING.contains(name)) {
      return false;
    }
    if (how == IllegalStateException.class) {
      return STATE.contains(name);
    }
    return how == IndexOutOfBoundsException.class && !NO_INDEX.contains(name)
        || how == IllegalArgumentException.class && !NO_ARGUMENT.contains(name);
  }

  /** As many stays as ever can be kept, and then some more calls. */
  private static void manyStays() {
    Bookingstree x = new Bookingstree();
    x.room(0);
    x.room(0);
    x.room(0);
    x.room(0);
    for (int i = 0; i < 10; i++) {
      x.group(0, 9 * i, 5, 4, 500);
    }
    for (int stay = 0; stay < 248; stay++) {
      Check.is(stay % 4, x.cancel(stay), "13: its ROOM");
      Check.is(40 + stay, x.hold(0, 9 * (stay / 4 % 10), 5, 500, 99), "9: its number");
    }
    Check.is(true, x.isSound(), "39: with very many stays");
    Check.is(40 + 248, x.house(1), "29: STAYS that were kept ever");
    for (int i = 0; i < 1000; i++) {
      try {
        x.cancel(x.house(1) - 40);
        x.hold(0, 9 * ((x.house(1) / 4) % 10), 5, 500, 99);
      } catch (IllegalStateException e) {
        Check.is(true, Check.isThrownByItself(e), "it is thrown by the class itself");
      }
      if (i % 3 == 0) {
        x.undo();
        x.undo();
      }
    }
    Check.is(true, x.house(9) <= 512, "29: long behind the 512th call no more is kept");
  }
}
