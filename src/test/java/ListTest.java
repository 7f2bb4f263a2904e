/**
 * Section 2, LOOKING AFTER THE LIST: it is done behind just those calls that the section names, in
 * the order in which they came, and each that waits is looked at once.
 */
public final class ListTest {
  private static Used x;

  private ListTest() {
  }

  public static void main(String[] args) {
    behindRoom();
    behindOpen();
    behindCancel();
    behindShorten();
    behindMove();
    behindRedeal();
    behindPass();
    notBehindClosing();
    notBehindAskingForStays();
    notBehindPayAndLengthen();
    notBehindWhatToldNone();
    notBehindPassAlone();
    notBehindUndo();
    notBehindWhatAsks();
    notBehindWhatThrows();
    inTheirOrder();
    laterOnesToo();
    eachOnce();
    forty();
    theRoomsThatTheyGet();
    byTheRoomThatWasLeft();
    answersAreOfTheCallAlone();
    whatWaitedIsLikeOthers();
    howManyEver();
    Check.end();
  }

  private static void make(int... kinds) {
    x = new Used();
    for (int kind : kinds) {
      x.room(kind);
    }
  }

  private static void answers(Object due, String sentence, String name, int... a) {
    Sentence.answers(x, due, sentence, name, a);
  }

  private static void asked(Object due, String sentence, String name, int... a) {
    Sentence.asked(x, due, sentence, name, a);
  }

  /** Puts one on the list for whom a ROOM is FREE: whoever looks after the list finds it. */
  private static int ready() {
    int stay = x.queue(3, 98, 1, 3);
    Check.is(2, x.ofStay(stay, 5), "10: the list is not looked after by this");
    Check.is(true, x.free(3, 98, 1, false) >= 0, "10: a ROOM is FREE for it");
    return stay;
  }

  private static void looks(int due, String sentence, String name, int... a) {
    int stay = ready();
    int ever = x.house(13);
    answers(due, sentence, name, a);
    asked(1, sentence + ": it is PAID", "ofStay", stay, 5);
    Check.is(true, x.ofStay(stay, 6) >= 0, sentence + ": it has a ROOM");
    Check.is(true, x.house(13) > ever, sentence + ": it is counted");
    x.cancel(stay);
  }

  private static void looksNot(Object due, String sentence, String name, int... a) {
    int stay = ready();
    int ever = x.house(13);
    answers(due, sentence, name, a);
    asked(2, sentence + ": it goes on WAITING", "ofStay", stay, 5);
    asked(ever, sentence + ": nobody got a ROOM", "house", 13);
    x.cancel(stay);
  }

  // ---- where it is done

  private static void behindRoom() {
    make(0);
    looks(1, "2: behind room()", "room", 1);
    looks(2, "2: behind room()", "room", 0);
  }

  private static void behindOpen() {
    make(0, 0);
    x.close(0, 5, 9);
    x.close(1, 5, 5);
    looks(5, "4: behind open()", "open", 0, 5);
    looks(1, "4: behind open()", "open", 1, 5);
  }

  private static void behindCancel() {
    make(0);
    x.book(0, 5, 1, 1);
    x.hold(0, 6, 1, 1, 9);
    x.queue(0, 5, 2, 1);
    looks(0, "13: behind cancel() of a PAID one", "cancel", 0);
    looks(0, "13: behind cancel() of a HELD one", "cancel", 1);
    make(0);
    x.queue(1, 5, 1, 1);
    looks(-1, "13: behind cancel() of one WAITING", "cancel", 0);
  }

  private static void behindShorten() {
    make(0);
    x.book(0, 5, 3, 1);
    x.hold(0, 8, 3, 1, 9);
    x.queue(1, 20, 3, 1);
    looks(2, "14: behind shorten() of a PAID one", "shorten", 0, 1);
    looks(1, "14: behind shorten() of a HELD one", "shorten", 1, 2);
    looks(2, "14: behind shorten() of one WAITING", "shorten", 2, 1);
  }

  private static void behindMove() {
    make(0, 0);
    x.book(0, 5, 3, 1);
    x.hold(0, 8, 3, 1, 9);
    looks(0, "16: behind move() of a PAID one", "move", 0, 1);
    looks(0, "16: behind move() of a HELD one", "move", 1, 1);
  }

  private static void behindRedeal() {
    make(0, 0);
    x.book(0, 5, 3, 1);
    x.book(0, 8, 3, 1);
    x.move(0, 1);
    looks(1, "17: behind redeal(), one is in another ROOM", "redeal");
    x.move(0, 1);
    x.move(1, 1);
    looks(2, "17: behind redeal(), two are", "redeal");
  }

  private static void behindPass() {
    make(0);
    x.hold(0, 5, 1, 1, 3);
    x.hold(0, 6, 1, 1, 5);
    x.hold(0, 7, 1, 1, 5);
    looks(1, "7: behind pass() by which one was GONE", "pass", 3);
    looks(2, "7: behind pass() by which two were GONE", "pass", 2);
  }

  // ---- where it is not done

  private static void notBehindClosing() {
    make(0, 0);
    looksNot(1, "3: not behind close()", "close", 0, 5, 9);
    looksNot(-1, "3: not behind close() that told NONE", "close", 0, 9, 9);
    looksNot(100, "6: not behind base()", "base", 0, 70);
    x.cancel(x.queue(1, 0, 1, 1));
    looksNot(0, "5: not behind clean()", "clean", 2);
    looksNot(2, "5: not behind clean() that makes it less", "clean", 0);
  }

  private static void notBehindAskingForStays() {
    make(0, 0);
    looksNot(1, "8: not behind book()", "book", 0, 5, 1, 1);
    looksNot(3, "8: not behind book()", "book", 0, 5, 1, 1);
    looksNot(-1, "8: not behind book() that told NONE", "book", 0, 5, 1, 1);
    looksNot(6, "9: not behind hold()", "hold", 0, 6, 1, 1, 9);
    looksNot(-1, "9: not behind hold() that told NONE", "hold", 0, 5, 1, 1, 9);
    looksNot(9, "10: not behind queue()", "queue", 0, 50, 1, 1);
    x.cancel(9);
    looksNot(11, "11: not behind group()", "group", 0, 7, 1, 2, 1);
    looksNot(-1, "11: not behind group() that told NONE", "group", 0, 7, 1, 2, 1);
  }

  private static void notBehindPayAndLengthen() {
    make(0);
    x.hold(0, 5, 1, 1, 9);
    x.book(0, 8, 1, 1);
    x.queue(1, 8, 1, 1);
    looksNot(9, "12: not behind pay()", "pay", 0);
    looksNot(2, "15: not behind lengthen()", "lengthen", 0, 1);
    looksNot(-1, "15: not behind lengthen() that told NONE", "lengthen", 0, 5);
    looksNot(2, "15: not behind lengthen() of one WAITING", "lengthen", 2, 1);
  }

  private static void notBehindWhatToldNone() {
    make(0, 1, 0);
    x.close(0, 5, 9);
    x.close(2, 20, 20);
    x.book(0, 20, 1, 1);
    looksNot(-1, "4: not behind open() that told NONE", "open", 0, 6);
    looksNot(-1, "4: not behind open() that told NONE", "open", 1, 5);
    looksNot(-1, "16: not behind move() that told NONE, it is there", "move", 0, 0);
    looksNot(-1, "16: not behind move() that told NONE, another KIND", "move", 0, 1);
    looksNot(-1, "16: not behind move() that told NONE, not FREE", "move", 0, 2);
    looksNot(0, "17: not behind redeal() that told 0", "redeal");
    make();
    x.queue(0, 98, 1, 3);
    answers(0, "17: not behind redeal() that told 0, nobody is BOOKED", "redeal");
    asked(2, "17: it goes on WAITING", "ofStay", 0, 5);
    make(0, 1);
    x.book(0, 20, 2, 1);
    x.book(3, 19, 2, 1);
    looksNot(-1, "17: not behind redeal() that told NONE", "redeal");
  }

  private static void notBehindPassAlone() {
    make(0);
    looksNot(0, "7: not behind pass(), none was HELD", "pass", 1);
    int held = x.hold(0, 5, 1, 1, 9);
    x.book(0, 6, 1, 1);
    looksNot(0, "7: not behind pass() by which none was GONE", "pass", 8);
    x.pay(held);
    looksNot(0, "7: nor if it is PAID by then", "pass", 99);
  }

  private static void notBehindUndo() {
    make(0);
    x.queue(0, 98, 1, 1);
    x.book(0, 5, 1, 1);
    answers(2, "18: not behind undo()", "undo");
    asked(2, "18: it goes on WAITING", "ofStay", 0, 5);
    x.cancel(x.book(0, 5, 1, 1));
    asked(1, "18: cancel() looked after the list", "ofStay", 0, 5);
    answers(3, "18: what came of it is undone", "undo");
    asked(2, "18: it is WAITING again", "ofStay", 0, 5);
    asked(0, "18: nobody got a ROOM", "house", 13);
    x.close(0, 50, 50);
    x.open(0, 50);
    asked(1, "18: open() looked after the list", "ofStay", 0, 5);
    x.undo();
    asked(2, "18: it is WAITING again", "ofStay", 0, 5);
    x.undo();
    asked(2, "18: it is WAITING still", "ofStay", 0, 5);
  }

  private static void notBehindWhatAsks() {
    make(0);
    x.book(0, 5, 1, 1);
    for (String name : Runs.ASKED) {
      if (!name.equals("undo")) {
        int stay = ready();
        x.answer(name, new int[Runs.arity(name)]);
        asked(2, "22 to 40: not behind " + name + "()", "ofStay", stay, 5);
        x.cancel(stay);
      }
    }
  }

  private static void notBehindWhatThrows() {
    make(0, 0, 0, 0, 0, 0);
    x.book(0, 5, 1, 1);
    String state = "throws.IllegalStateException";
    String argument = "throws.IllegalArgumentException";
    String index = "throws.IndexOutOfBoundsException";
    looksNot(state, "2: not behind a room() that threw", "room", 0);
    looksNot(argument, "2: not behind a room() that threw", "room", 3);
    looksNot(index, "4: not behind an open() that threw", "open", 6, 0);
    looksNot(argument, "7: not behind a pass() that threw", "pass", 0);
    looksNot(index, "13: not behind a cancel() that threw", "cancel", 99);
    looksNot(state, "14: not behind a shorten() that threw", "shorten", 0, 1);
    looksNot(index, "16: not behind a move() that threw", "move", 0, 6);
    looksNot(state, "13: not behind a cancel() that threw", "cancel", 1);
  }

  // ---- how it is done

  /** Those WAITING, in the order in which they came. */
  private static void inTheirOrder() {
    make(0);
    x.book(0, 10, 5, 1);
    x.queue(0, 12, 3, 500);
    x.queue(0, 10, 3, 1);
    x.queue(0, 11, 1, 1);
    x.cancel(0);
    asked(1, "13: the first that came gets it", "ofStay", 1, 5);
    asked(2, "13: the second one MEETS it", "ofStay", 2, 5);
    asked(1, "13: the third one does not", "ofStay", 3, 5);
    asked(2, "27: the second one is the first by now", "waiting", 0);
    x.cancel(1);
    asked(2, "13: the third one is in the way of it", "ofStay", 2, 5);
    x.cancel(3);
    asked(1, "13: now it gets the ROOM", "ofStay", 2, 5);
    asked(0, "29: nobody is WAITING any more", "house", 4);
  }

  private static void laterOnesToo() {
    make(0, 1);
    x.book(0, 10, 5, 1);
    x.book(1, 10, 5, 1);
    x.queue(1, 10, 1, 1);
    x.queue(1, 11, 1, 1);
    x.queue(0, 10, 1, 1);
    x.queue(1, 12, 1, 1);
    x.queue(0, 11, 1, 1);
    x.cancel(0);
    int[] due = {2, 2, 1, 2, 1};
    for (int i = 0; i < due.length; i++) {
      asked(due[i], "13: who cannot, waits; who came later can", "ofStay", 2 + i, 5);
    }
    asked(2, "27: the order stays", "waiting", 0);
    asked(3, "27: the order stays", "waiting", 1);
    asked(5, "27: the order stays", "waiting", 2);
    asked(2, "22: two ahead of it", "ofStay", 5, 8);
  }

  /** (They are looked at once each.) */
  private static void eachOnce() {
    for (int many = 1; many <= 5; many++) {
      make();
      for (int i = 0; i < many; i++) {
        x.queue(0, i, 1, 1);
      }
      x.room(0);
      asked(many, "2: all of them, one behind the other", "house", 3);
      asked(0, "2: nobody is left", "house", 4);
    }
    make();
    for (int i = 0; i < 10; i++) {
      x.queue(0, i / 2, 1, 1);
    }
    x.room(0);
    for (int i = 0; i < 10; i++) {
      asked(1 + i % 2, "2: each first one of two", "ofStay", i, 5);
    }
    x.room(1);
    asked(5, "2: the others have no ROOM of their KIND", "house", 4);
    x.room(0);
    asked(0, "2: the others get the third ROOM", "house", 4);
  }

  private static void forty() {
    make();
    for (int i = 0; i < 40; i++) {
      x.queue(i % 4, 2 * i, 2, 1);
    }
    x.room(0);
    asked(20, "2: those of its KIND and of any", "house", 13);
    asked(39, "22: the last of them is of any KIND", "ofRoom", 0, 6);
    x.room(2);
    asked(30, "2: those of the other KIND", "house", 13);
    x.room(1);
    asked(40, "2: all forty", "house", 13);
    asked(37, "23: the last one of its KIND", "ofRoom", 2, 6);
  }

  /** Each gets the ROOM with the smallest number that is FREE then. */
  private static void theRoomsThatTheyGet() {
    make(0, 0, 0);
    x.close(0, 10, 10);
    x.queue(0, 10, 2, 1);
    x.queue(0, 9, 2, 1);
    x.queue(0, 11, 2, 1);
    x.queue(0, 13, 1, 1);
    x.queue(0, 11, 1, 1);
    x.cancel(x.queue(1, 0, 1, 1));
    int[] due = {1, 2, 0, 0, 2};
    for (int stay = 0; stay < due.length; stay++) {
      asked(due[stay], "2: the smallest ROOM that is FREE then", "ofStay", stay, 6);
    }
    make(0);
    x.clean(2);
    x.queue(0, 10, 2, 1);
    x.queue(0, 13, 2, 1);
    x.queue(0, 14, 2, 1);
    x.queue(0, 8, 1, 1);
    x.queue(0, 7, 1, 1);
    x.cancel(x.queue(1, 0, 1, 1));
    int[] states = {1, 2, 1, 2, 1};
    for (int stay = 0; stay < states.length; stay++) {
      asked(states[stay], "2: with their cleaning", "ofStay", stay, 5);
    }
    asked(".......4::00::22::..", "2: with their cleaning", "text", 0, 0);
  }

  private static void byTheRoomThatWasLeft() {
    make(0, 0);
    x.book(0, 10, 3, 1);
    x.book(0, 10, 3, 1);
    x.queue(0, 12, 1, 1);
    answers(2, "14: just the NIGHT that is left", "shorten", 1, 1);
    asked(1, "14: it gets that", "ofStay", 2, 6);
    x.queue(0, 9, 2, 1);
    answers(2, "14: a NIGHT that it does not want", "shorten", 0, 1);
    asked(2, "14: it waits", "ofStay", 3, 5);
    answers(1, "14: one WAITING, by which it fits", "shorten", 3, 1);
    asked(0, "14: it gets the ROOM itself", "ofStay", 3, 6);
    asked(1, "14: it is PAID", "ofStay", 3, 5);
    x.queue(0, 10, 1, 1);
    answers(-1, "16: the other ROOM is not FREE", "move", 0, 1);
    x.cancel(1);
    asked(1, "13: the ROOM that was left", "ofStay", 4, 6);
    x.queue(0, 10, 1, 1);
    x.room(0);
    asked(2, "2: the new ROOM", "ofStay", 5, 6);
  }

  private static void answersAreOfTheCallAlone() {
    make(0, 0);
    x.close(0, 5, 9);
    x.queue(0, 5, 5, 1);
    x.queue(0, 5, 5, 1);
    answers(5, "4: how many NIGHTS it had", "open", 0, 5);
    asked(2, "29: both got a ROOM", "house", 13);
    x.queue(0, 5, 5, 1);
    answers(0, "13: its ROOM", "cancel", 0);
    asked(0, "13: the other one is there", "ofStay", 2, 6);
    x.queue(0, 7, 5, 1);
    answers(2, "14: LENGTH then", "shorten", 1, 3);
    asked(1, "14: the other one is there", "ofStay", 3, 6);
    x.room(0);
    x.queue(0, 5, 2, 1);
    answers(0, "16: where it was", "move", 2, 2);
    asked(0, "16: the other one is there", "ofStay", 4, 6);
    x.queue(0, 20, 1, 1);
    x.queue(0, 20, 1, 1);
    x.queue(0, 20, 1, 1);
    answers(4, "17: how many are in another ROOM, those who waited aside", "redeal");
    asked(0, "17: nobody waits any more", "house", 4);
    make(0);
    x.hold(0, 5, 1, 1, 2);
    x.queue(0, 5, 1, 1);
    x.queue(0, 6, 1, 1);
    answers(1, "7: how many are GONE, those who waited aside", "pass", 2);
    asked(2, "7: both got a ROOM", "house", 13);
  }

  private static void whatWaitedIsLikeOthers() {
    make();
    x.queue(0, 5, 2, 77);
    x.room(0);
    asked(5, "22: its FIRST is kept", "ofStay", 0, 1);
    asked(77, "22: its WORTH is kept", "ofStay", 0, 4);
    asked(-1, "22: it is PAID, not HELD", "ofStay", 0, 7);
    asked(-1, "22: it is not on the list", "ofStay", 0, 8);
    asked(77, "29: its WORTH counts", "house", 12);
    answers(3, "15: it can be made longer", "lengthen", 0, 1);
    answers(1, "14: it can be cut short", "shorten", 0, 2);
    answers(-1, "16: it can be asked to move", "move", 0, 0);
    answers(0, "7: it does not lapse", "pass", 99);
    answers(0, "13: it can be cancelled", "cancel", 0);
  }

  private static void howManyEver() {
    make();
    x.queue(0, 5, 1, 1);
    x.queue(0, 5, 1, 1);
    x.queue(0, 6, 1, 1);
    asked(0, "29: nobody got a ROOM", "house", 13);
    x.room(0);
    asked(2, "29: two got a ROOM", "house", 13);
    x.cancel(0);
    asked(3, "29: three, one of them is GONE", "house", 13);
    x.cancel(1);
    x.cancel(2);
    asked(3, "29: three ever", "house", 13);
    x.book(0, 5, 1, 1);
    asked(3, "29: who did not wait does not count", "house", 13);
    for (int due = 3; due >= 2; due--) {
      x.undo();
      asked(3, "29: three still", "house", 13);
    }
    x.undo();
    asked(3, "29: three, the third one got it by the first one's cancel()", "house", 13);
    x.undo();
    asked(2, "29: those that were undone aside", "house", 13);
    x.undo();
    asked(0, "29: those that were undone aside", "house", 13);
  }
}
