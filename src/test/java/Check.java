/** Counts what is not as it is due, and tells it. */
final class Check {
  private static int wrong = 0;
  private static int right = 0;

  private Check() {
  }

  static void is(Object due, Object got, String what) {
    if (due.equals(got)) {
      right++;
    } else {
      wrong++;
      System.out.println(what + ": answered " + got + ", due is " + due);
    }
  }

  interface Call {
    void run();
  }

  static void argument(Call call, String what) {
    refuses(IllegalArgumentException.class, call, what);
  }

  static void state(Call call, String what) {
    refuses(IllegalStateException.class, call, what);
  }

  static void index(Call call, String what) {
    refuses(IndexOutOfBoundsException.class, call, what);
  }

  /** It must be thrown by the class itself: not by the machine, not by the library. */
  private static void refuses(Class<?> how, Call call, String what) {
    try {
      call.run();
    } catch (RuntimeException e) {
      is(how.getName(), e.getClass().getName(), what);
      is(true, isThrownByItself(e), what + " throws it itself");
      return;
    }
    is(how.getName(), "no exception", what);
  }

  static boolean isThrownByItself(RuntimeException e) {
    StackTraceElement[] trace = e.getStackTrace();
    return trace.length > 0 && trace[0].getClassName().startsWith("Bookingstree");
  }

  static void end() {
    System.out.println(right + " answers are as due, " + wrong + " are not");
    if (wrong > 0 || right == 0) {
      System.exit(1);
    }
  }
}
