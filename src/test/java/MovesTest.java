import java.util.Arrays;
import java.util.Random;

/**
 * FEWEST MOVES in crowded houses, compared with PlainHouse, which tries every way to put one STAY
 * or two. The houses come from fixed seeds. An argument tells another seed to begin with, a second
 * one how many houses.
 */
public final class MovesTest {
  private static final int QUESTIONS = 40;
  private static final int LEAST_SEEN = 20;

  private final Random random;
  private final Bookingstree x = new Bookingstree();
  private final PlainHouse plain = new PlainHouse();
  private final StringBuilder log = new StringBuilder();
  private final int[] seen;
  private boolean isAlike = true;

  private MovesTest(long seed, int[] seen) {
    random = new Random(seed);
    this.seen = seen;
  }

  public static void main(String[] args) {
    int begin = args.length > 0 ? Integer.parseInt(args[0]) : 1;
    int houses = args.length > 1 ? Integer.parseInt(args[1]) : 300;
    int[] seen = new int[4];
    for (int seed = begin; seed < begin + houses; seed++) {
      MovesTest test = new MovesTest(seed, seen);
      test.run();
      if (!test.isAlike) {
        System.out.println("house " + seed + ":\n" + test.log);
        System.exit(1);
      }
    }
    System.out.println(houses + " houses are alike; NONE, 0, 1, 2: " + Arrays.toString(seen));
    if (houses >= 300 && Arrays.stream(seen).min().orElse(0) < LEAST_SEEN) {
      System.out.println("some answers were hardly ever due");
      System.exit(1);
    }
  }

  private void run() {
    int rooms = 2 + random.nextInt(4);
    int kinds = 1 + random.nextInt(3);
    int span = 8 + random.nextInt(12);
    int begin = random.nextBoolean() ? 0 : 99 - span - 5;
    for (int room = 0; room < rooms; room++) {
      call("room", random.nextInt(kinds));
    }
    call("clean", random.nextInt(3));
    int crowd = 3 + random.nextInt(25);
    for (int i = 0; i < crowd; i++) {
      int first = begin + random.nextInt(span);
      int dice = random.nextInt(10);
      if (dice < 7) {
        int kind = random.nextInt(3) > 0 ? 3 : random.nextInt(kinds);
        call("book", kind, first, 1 + random.nextInt(4), 1);
      } else if (dice < 8) {
        call("close", random.nextInt(rooms), first, first + random.nextInt(2));
      } else {
        call("move", random.nextInt(1 + i), random.nextInt(rooms));
      }
    }
    for (int i = 0; i < QUESTIONS && isAlike; i++) {
      String answer = call("moves", random.nextInt(4), begin + random.nextInt(span),
          1 + random.nextInt(5));
      seen[Integer.parseInt(answer) + 1]++;
    }
  }

  private String call(String name, int... a) {
    String due = plain.answer(name, a);
    String got = Runs.answer(x, name, a);
    if (isAlike) {
      log.append(name).append(Arrays.toString(a)).append(" = ").append(got).append('\n');
    }
    if (isAlike && !due.equals(got)) {
      isAlike = false;
      log.append("due is ").append(due);
    }
    return due;
  }
}
