import java.util.Arrays;

/** Calls by name, each with the sentence of the document that it tries. */
final class Sentence {
  private static final int TOLD = 9;

  private Sentence() {
  }

  static void answers(Used x, Object due, String sentence, String name, int... a) {
    Check.is(due.toString(), x.answer(name, a), what(sentence, name, a));
  }

  static void argument(Used x, String sentence, String name, int... a) {
    String before = x.snapshot();
    Check.argument(() -> x.tell(name, a), what(sentence, name, a));
    unchanged(x, before, what(sentence, name, a));
  }

  static void state(Used x, String sentence, String name, int... a) {
    String before = x.snapshot();
    Check.state(() -> x.tell(name, a), what(sentence, name, a));
    unchanged(x, before, what(sentence, name, a));
  }

  static void index(Used x, String sentence, String name, int... a) {
    String before = x.snapshot();
    Check.index(() -> x.tell(name, a), what(sentence, name, a));
    unchanged(x, before, what(sentence, name, a));
  }

  /** The call tells that, is TOLD, and changes nothing besides. */
  static void idle(Used x, int due, String sentence, String name, int... a) {
    String before = x.snapshot();
    int told = new Asker(x).number("house", TOLD);
    answers(x, due, sentence, name, a);
    Check.is(told + 1, new Asker(x).number("house", TOLD), what(sentence, name, a) + " is TOLD");
    Check.is(Snapshot.besidesTold(before), Snapshot.besidesTold(x.snapshot()),
        what(sentence, name, a) + " changes nothing");
  }

  /** The call asks for that, and changes nothing at all. */
  static void asked(Used x, Object due, String sentence, String name, int... a) {
    String before = x.snapshot();
    answers(x, due, sentence, name, a);
    unchanged(x, before, what(sentence, name, a));
  }

  private static void unchanged(Used x, String before, String what) {
    Check.is(before, x.snapshot(), what + " changes nothing");
  }

  private static String what(String sentence, String name, int[] a) {
    return sentence + ": " + name + Arrays.toString(a);
  }
}
