/** Calls of Bookingstree by name, as the tests that go through many runs make them. */
final class Runs {
  static final String[] TOLD = {"room", "close", "open", "clean", "base", "pass", "book", "hold",
      "queue", "group", "pay", "cancel", "shorten", "lengthen", "move", "redeal"};
  static final String[] ASKED = {"ofStay", "ofRoom", "at", "between", "text", "waiting", "busy",
      "house", "free", "hinders", "dealing", "dealt", "moves", "price", "odds", "oneRoom",
      "chosen", "isSound", "digest", "undo", "blank", "tear", "knock"};

  private Runs() {
  }

  /** How many numbers the call is given (a boolean counts as one: 0 is false). */
  static int arity(String name) {
    switch (name) {
      case "hold": case "group": return 5;
      case "book": case "queue": case "free": return 4;
      case "close": case "at": case "between": case "hinders": case "moves": case "price":
      case "odds": return 3;
      case "open": case "base": case "shorten": case "lengthen": case "move": case "ofStay":
      case "ofRoom": case "text": return 2;
      case "redeal": case "undo": case "blank": case "tear": case "knock": case "isSound":
      case "digest": return 0;
      default: return 1;
    }
  }

  /** The answer as a text; what a call throws is an answer too. */
  static String answer(Bookingstree x, String name, int[] a) {
    try {
      return tell(x, name, a);
    } catch (RuntimeException e) {
      return "throws." + e.getClass().getSimpleName();
    }
  }

  static String tell(Bookingstree x, String name, int[] a) {
    switch (name) {
      case "room": return "" + x.room(a[0]);
      case "close": return "" + x.close(a[0], a[1], a[2]);
      case "open": return "" + x.open(a[0], a[1]);
      case "clean": return "" + x.clean(a[0]);
      case "base": return "" + x.base(a[0], a[1]);
      case "pass": return "" + x.pass(a[0]);
      case "book": return "" + x.book(a[0], a[1], a[2], a[3]);
      case "hold": return "" + x.hold(a[0], a[1], a[2], a[3], a[4]);
      case "queue": return "" + x.queue(a[0], a[1], a[2], a[3]);
      case "group": return "" + x.group(a[0], a[1], a[2], a[3], a[4]);
      case "pay": return "" + x.pay(a[0]);
      case "cancel": return "" + x.cancel(a[0]);
      case "shorten": return "" + x.shorten(a[0], a[1]);
      case "lengthen": return "" + x.lengthen(a[0], a[1]);
      case "move": return "" + x.move(a[0], a[1]);
      case "redeal": return "" + x.redeal();
      case "undo": return "" + x.undo();
      case "blank": return "" + x.blank();
      case "tear": return "" + x.tear();
      case "knock": return "" + x.knock();
      default: return ask(x, name, a);
    }
  }

  private static String ask(Bookingstree x, String name, int[] a) {
    switch (name) {
      case "ofStay": return "" + x.ofStay(a[0], a[1]);
      case "ofRoom": return "" + x.ofRoom(a[0], a[1]);
      case "at": return "" + x.at(a[0], a[1], a[2]);
      case "between": return "" + x.between(a[0], a[1], a[2]);
      case "text": return x.text(a[0], a[1]);
      case "waiting": return "" + x.waiting(a[0]);
      case "busy": return "" + x.busy(a[0]);
      case "house": return "" + x.house(a[0]);
      case "free": return "" + x.free(a[0], a[1], a[2], a[3] != 0);
      case "hinders": return "" + x.hinders(a[0], a[1], a[2]);
      case "dealing": return "" + x.dealing(a[0]);
      case "dealt": return "" + x.dealt(a[0]);
      case "moves": return "" + x.moves(a[0], a[1], a[2]);
      case "price": return "" + x.price(a[0], a[1], a[2]);
      case "odds": return "" + x.odds(a[0], a[1], a[2]);
      case "oneRoom": return "" + x.oneRoom(a[0]);
      case "chosen": return x.chosen(a[0] != 0);
      case "isSound": return "" + x.isSound();
      case "digest": return "" + x.digest();
      default: throw new IllegalArgumentException("no call " + name);
    }
  }
}
