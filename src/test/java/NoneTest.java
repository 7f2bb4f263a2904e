/**
 * The sentences 'Returns .. NONE, if ..' and '-9, if ..': each just where it begins and just where
 * it does not, and that nothing changes by it (but that the call is TOLD, or the -9 counted).
 */
public final class NoneTest {
  private static Used x;

  private NoneTest() {
  }

  public static void main(String[] args) {
    close();
    open();
    bookOrHold("book", "8: ");
    bookOrHold("hold", "9: ");
    notKept();
    group();
    cancel();
    lengthen();
    lengthenWithCleaning();
    move();
    moveThatIsThere();
    redeal();
    redealByClosures();
    blankAndTear();
    ofStayRoom();
    ofStayHour();
    ofStayAhead();
    ofRoom();
    at();
    atWithCleaning();
    between();
    waiting();
    free();
    hinders();
    dealing();
    dealt();
    moves();
    odds();
    Check.end();
  }

  private static void make(int... kinds) {
    x = new Used();
    for (int kind : kinds) {
      x.room(kind);
    }
  }

  private static void answers(Object due, String sentence, String name, int... a) {
    Sentence.answers(x, due, sentence, name, a);
  }

  private static void none(String sentence, String name, int... a) {
    Sentence.idle(x, -1, sentence, name, a);
  }

  private static void asked(Object due, String sentence, String name, int... a) {
    Sentence.asked(x, due, sentence, name, a);
  }

  /** Calls it and undoes it. */
  private static void would(Object due, String sentence, String name, int... a) {
    String before = x.snapshot();
    answers(due, sentence, name, a);
    x.undo();
    Check.is(before, x.snapshot(), sentence + ": undone");
  }

  // ---- promises 3 and 4

  private static void close() {
    make(0, 0);
    x.clean(2);
    x.book(0, 10, 3, 1);
    x.close(0, 30, 32);
    none("3: a STAY MEETS it by its FIRST", "close", 0, 5, 10);
    would(2, "3: just ahead of its FIRST", "close", 0, 5, 9);
    none("3: a STAY MEETS it by its LAST", "close", 0, 12, 12);
    none("3: a STAY MEETS it by its cleaning", "close", 0, 14, 20);
    would(2, "3: just behind its cleaning", "close", 0, 15, 20);
    none("3: inside a STAY", "close", 0, 11, 11);
    none("3: over all of a STAY", "close", 0, 9, 15);
    none("3: a CLOSURE MEETS it by its first NIGHT", "close", 0, 25, 30);
    would(2, "3: just ahead of a CLOSURE, which is not cleaned for", "close", 0, 25, 29);
    none("3: a CLOSURE MEETS it by its last NIGHT", "close", 0, 32, 40);
    would(2, "3: just behind a CLOSURE, which is not cleaned", "close", 0, 33, 40);
    none("3: the same CLOSURE once more", "close", 0, 30, 32);
    none("3: inside a CLOSURE", "close", 0, 31, 31);
    none("3: over all of a CLOSURE", "close", 0, 29, 33);
    would(1, "3: what is in another ROOM does not MEET it", "close", 1, 0, 99);
    x.queue(0, 50, 3, 1);
    would(2, "3: one WAITING does not MEET it", "close", 0, 50, 52);
    x.cancel(0);
    would(2, "3: a GONE one does not MEET it", "close", 0, 10, 14);
    x.hold(0, 97, 3, 1, 5);
    none("3: a HELD one MEETS it", "close", 0, 99, 99);
    would(2, "3: just ahead of a HELD one", "close", 0, 96, 96);
  }

  private static void open() {
    make(0, 0);
    none("4: there is no CLOSURE", "open", 0, 0);
    x.close(0, 5, 9);
    x.close(0, 10, 12);
    x.close(1, 20, 29);
    x.book(0, 30, 3, 1);
    none("4: none begins with the NIGHT ahead of it", "open", 0, 4);
    none("4: none begins with the NIGHT behind its first", "open", 0, 6);
    none("4: none begins with its last NIGHT", "open", 0, 9);
    none("4: none of this ROOM begins with it", "open", 0, 20);
    none("4: none of this ROOM begins with it", "open", 1, 5);
    none("4: a STAY does, but no CLOSURE", "open", 0, 30);
    would(5, "4: one begins with it", "open", 0, 5);
    would(3, "4: another one begins with it", "open", 0, 10);
    would(10, "4: one of the other ROOM begins with it", "open", 1, 20);
    x.open(0, 5);
    none("4: none begins with it any more", "open", 0, 5);
    none("4: none begins with the last NIGHT", "open", 0, 99);
    x.close(0, 99, 99);
    would(1, "4: one begins with the last NIGHT", "open", 0, 99);
    x.close(0, 0, 0);
    would(1, "4: one begins with the first NIGHT", "open", 0, 0);
  }

  // ---- promises 8, 9 and 11

  private static int[] given(String name, int kind, int first, int length) {
    return name.equals("hold") ? new int[] {kind, first, length, 7, 5}
        : new int[] {kind, first, length, 7};
  }

  private static void bookOrHold(String name, String p) {
    make();
    none(p + "there is no ROOM at all", name, given(name, 3, 5, 1));
    make(0, 1);
    none(p + "there is no ROOM of its KIND", name, given(name, 2, 5, 1));
    x.clean(1);
    x.book(0, 10, 2, 1);
    x.close(1, 20, 21);
    none(p + "a STAY is in its only ROOM", name, given(name, 0, 11, 1));
    none(p + "the cleaning of a STAY is", name, given(name, 0, 12, 1));
    would(1, p + "just behind the cleaning", name, given(name, 0, 13, 20));
    none(p + "its own cleaning MEETS the STAY", name, given(name, 0, 8, 2));
    would(1, p + "just ahead of the STAY", name, given(name, 0, 7, 2));
    none(p + "a CLOSURE is in its only ROOM", name, given(name, 1, 21, 1));
    would(1, p + "just behind the CLOSURE", name, given(name, 1, 22, 1));
    none(p + "its own cleaning MEETS the CLOSURE", name, given(name, 1, 15, 5));
    would(1, p + "just ahead of the CLOSURE", name, given(name, 1, 15, 4));
    would(1, p + "any KIND: the other ROOM is FREE", name, given(name, 3, 11, 1));
    x.close(1, 11, 11);
    none(p + "any KIND: both are not FREE", name, given(name, 3, 11, 1));
  }

  private static void notKept() {
    make(0);
    answers(0, "8: the first one", "book", 0, 5, 1, 7);
    none("8: it is not kept", "book", 0, 5, 1, 7);
    none("9: it is not kept", "hold", 0, 5, 1, 7, 9);
    none("11: none is kept", "group", 0, 6, 1, 2, 7);
    answers(1, "8: the next one gets the next number", "book", 0, 6, 1, 7);
    none("9: it is not kept", "hold", 0, 6, 1, 7, 9);
    answers(2, "9: the next one gets the next number", "hold", 0, 7, 1, 7, 9);
  }

  private static void group() {
    make();
    none("11: there is no ROOM at all", "group", 3, 5, 1, 2, 1);
    make(0);
    none("11: one ROOM is not two", "group", 0, 5, 1, 2, 1);
    make(0, 0);
    would(0, "11: two ROOMS are", "group", 0, 5, 1, 2, 1);
    none("11: nor three", "group", 0, 5, 1, 3, 1);
    make(0, 1, 0);
    none("11: two of its KIND are not side by side", "group", 0, 5, 1, 2, 1);
    would(0, "11: of any KIND they are", "group", 3, 5, 1, 3, 1);
    none("11: nor four of any KIND", "group", 3, 5, 1, 4, 1);
    make(0, 0, 0, 0);
    x.close(1, 5, 5);
    x.clean(1);
    none("11: a CLOSURE is between them", "group", 0, 5, 1, 3, 1);
    none("11: their cleaning MEETS it", "group", 0, 4, 1, 3, 1);
    would(0, "11: just ahead of it", "group", 0, 3, 1, 4, 1);
    would(0, "11: just behind it", "group", 0, 6, 1, 4, 1);
    would(0, "11: two are side by side", "group", 0, 5, 1, 2, 1);
    x.group(0, 10, 1, 3, 1);
    none("11: one ROOM is left", "group", 0, 10, 1, 2, 1);
    none("11: one is left from their cleaning", "group", 0, 11, 1, 2, 1);
    would(3, "11: just behind their cleaning", "group", 0, 12, 1, 4, 1);
  }

  // ---- promises 13, 15, 16 and 17

  private static void cancel() {
    make(0, 0);
    x.book(0, 5, 1, 1);
    x.hold(0, 5, 1, 1, 9);
    x.queue(0, 5, 1, 1);
    x.queue(0, 9, 1, 1);
    would(0, "13: its ROOM, of a PAID one", "cancel", 0);
    would(1, "13: its ROOM, of a HELD one", "cancel", 1);
    would(-1, "13: NONE, it was WAITING", "cancel", 2);
    would(-1, "13: NONE, it was WAITING, also if a ROOM is FREE for it", "cancel", 3);
    x.cancel(1);
    would(1, "13: its ROOM, of one that was WAITING once", "cancel", 2);
  }

  private static void lengthen() {
    make(0, 0);
    x.book(0, 10, 2, 1);
    x.book(0, 14, 1, 1);
    x.hold(0, 10, 1, 1, 9);
    x.close(1, 16, 16);
    x.queue(0, 11, 1, 1);
    would(4, "15: just up to another STAY", "lengthen", 0, 2);
    none("15: another STAY is there", "lengthen", 0, 3);
    none("15: another STAY is far inside", "lengthen", 0, 18);
    would(6, "15: just up to a CLOSURE", "lengthen", 2, 5);
    none("15: a CLOSURE is there", "lengthen", 2, 6);
    none("15: a CLOSURE is far inside", "lengthen", 2, 19);
    would(20, "15: nobody is behind it", "lengthen", 1, 19);
    would(20, "15: WAITING: whatever is there", "lengthen", 3, 19);
    would(2, "15: WAITING: by one", "lengthen", 3, 1);
    x.queue(0, 11, 1, 1);
    answers(5, "15: WAITING: it takes no NIGHTS by that", "lengthen", 3, 4);
    answers(6, "15: WAITING: whoever else waits for these", "lengthen", 4, 5);
    x.cancel(3);
    answers(9, "15: WAITING: whoever is GONE", "lengthen", 4, 3);
  }

  private static void lengthenWithCleaning() {
    make(0);
    x.clean(2);
    x.book(0, 10, 2, 1);
    x.book(0, 16, 1, 1);
    x.close(0, 22, 22);
    would(4, "15: its cleaning is just ahead of another STAY", "lengthen", 0, 2);
    none("15: its cleaning MEETS another STAY", "lengthen", 0, 3);
    would(4, "15: its cleaning is just ahead of a CLOSURE", "lengthen", 1, 3);
    none("15: its cleaning MEETS a CLOSURE", "lengthen", 1, 4);
    x.queue(0, 10, 2, 1);
    would(5, "15: WAITING: its cleaning MEETS nobody", "lengthen", 2, 3);
    make(0);
    x.clean(2);
    x.book(0, 97, 1, 1);
    would(2, "15: the cleaning is beyond 99", "lengthen", 0, 1);
    would(3, "15: all of the cleaning is", "lengthen", 0, 2);
  }

  private static void move() {
    make(0, 0, 1, 0);
    x.clean(1);
    x.book(0, 10, 2, 1);
    x.book(0, 12, 3, 1);
    x.close(3, 13, 13);
    Check.is(1, x.ofStay(1, 6), "16: the cleaning of the first one is in its way");
    none("16: it is there already", "move", 0, 0);
    none("16: it is there already", "move", 1, 1);
    none("16: the ROOM is not of its KIND", "move", 0, 2);
    none("16: its own cleaning MEETS one there", "move", 0, 1);
    none("16: the cleaning of the one there MEETS it", "move", 1, 0);
    none("16: a CLOSURE is there", "move", 1, 3);
    would(0, "16: its cleaning is just ahead of the CLOSURE", "move", 0, 3);
    x.open(3, 13);
    x.close(3, 12, 12);
    none("16: its cleaning MEETS the CLOSURE", "move", 0, 3);
    x.lengthen(1, 1);
    x.shorten(0, 1);
    would(1, "16: the cleaning of the one there is just ahead of it", "move", 1, 0);
    would(0, "16: its cleaning is just ahead of the one there", "move", 0, 1);
    make(1, 0);
    x.hold(3, 10, 2, 1, 9);
    would(0, "16: any KIND goes anywhere", "move", 0, 1);
    x.cancel(0);
    x.hold(1, 10, 2, 1, 9);
    none("16: the ROOM is not of its KIND, a HELD one", "move", 1, 1);
  }

  private static void moveThatIsThere() {
    make(0);
    x.book(0, 10, 2, 1);
    x.hold(3, 20, 2, 1, 9);
    none("16: there already, in the only ROOM", "move", 0, 0);
    none("16: there already, in the only ROOM, of any KIND", "move", 1, 0);
  }

  private static void redeal() {
    make();
    Sentence.idle(x, 0, "17: 0, none is BOOKED, no ROOM", "redeal");
    make(0, 1);
    Sentence.idle(x, 0, "17: 0, none is BOOKED", "redeal");
    x.book(0, 10, 2, 1);
    x.book(3, 10, 2, 1);
    Sentence.idle(x, 0, "17: 0, all are where they would be", "redeal");
    x.cancel(0);
    x.queue(0, 50, 1, 1);
    x.book(0, 11, 2, 1);
    none("17: NONE, the one of any KIND would take the only ROOM of the other one's", "redeal");
    make(0, 1);
    x.book(0, 12, 2, 1);
    x.book(3, 11, 1, 1);
    x.move(1, 1);
    would(1, "17: not NONE, the first one is over when the other one comes", "redeal");
    x.lengthen(1, 1);
    none("17: NONE, by one NIGHT", "redeal");
    make(0, 1);
    x.clean(1);
    x.book(0, 12, 2, 1);
    x.book(3, 11, 1, 1);
    none("17: NONE, by the cleaning", "redeal");
  }

  private static void redealByClosures() {
    make(0, 1);
    x.book(0, 12, 2, 1);
    x.book(3, 11, 2, 1);
    Check.is(1, x.ofStay(1, 6), "17: it is in the other ROOM");
    none("17: NONE, the one of any KIND takes the first ROOM", "redeal");
    x.close(0, 11, 11);
    Sentence.idle(x, 0, "17: a CLOSURE keeps it out", "redeal");
    x.open(0, 11);
    x.cancel(1);
    x.close(1, 0, 99);
    x.book(3, 10, 2, 1);
    Sentence.idle(x, 0, "17: 0, both in the ROOM that is open", "redeal");
    make(0, 0, 0);
    x.close(0, 10, 10);
    x.close(1, 12, 12);
    x.book(0, 10, 1, 1);
    x.book(0, 9, 3, 1);
    x.book(0, 10, 3, 1);
    Check.is(2, x.house(1), "17: the third one finds none");
    Check.is(1, x.ofStay(0, 6), "17: the first one is in the second ROOM");
    Check.is(2, x.ofStay(1, 6), "17: the second one is in the third ROOM");
    would(2, "17: the earlier one takes the second ROOM, the other one the third", "redeal");
  }

  // ---- promises 19 and 20

  private static void counted(int due, String sentence, String name, int... a) {
    int before = x.house(10);
    String all = everythingBut10();
    answers(due, sentence, name, a);
    Check.is(before + (due == -9 ? 1 : 0), x.house(10), sentence + ": how often -9 was told");
    Check.is(all, everythingBut10(), sentence + ": nothing changes besides");
  }

  private static String everythingBut10() {
    StringBuilder all = new StringBuilder();
    for (int what = 0; what <= 13; what++) {
      all.append(what == 10 ? 0 : x.house(what)).append(' ');
    }
    String snapshot = Snapshot.besidesTold(x.snapshot());
    return all + snapshot.substring(snapshot.indexOf('\n'));
  }

  private static void blankAndTear() {
    make();
    counted(-9, "19: a ROOM that nobody tells, without ROOMS", "blank");
    counted(-9, "20: nobody is WAITING", "tear");
    make(0, 0);
    x.queue(0, 5, 1, 1);
    x.queue(0, 5, 1, 1);
    counted(-9, "19: a ROOM that nobody tells", "blank");
    counted(-9, "20: nothing changes, two are WAITING", "tear");
    counted(-9, "20: nothing changes, also the second time", "tear");
    answers(1, "21: a knock is no -9", "knock");
    Check.is(3, x.house(10), "21: a knock is no -9");
  }

  // ---- promises 22 to 25 and 27

  private static void ofStayRoom() {
    make(0, 0);
    x.hold(0, 5, 1, 1, 9);
    x.book(0, 5, 1, 1);
    x.queue(0, 9, 1, 1);
    x.queue(0, 5, 1, 1);
    x.hold(0, 6, 1, 1, 1);
    asked(0, "22: the ROOM of a HELD one", "ofStay", 0, 6);
    asked(1, "22: the ROOM of a PAID one", "ofStay", 1, 6);
    asked(-1, "22: NONE, WAITING is not BOOKED", "ofStay", 2, 6);
    asked(-1, "22: NONE, WAITING is not BOOKED", "ofStay", 3, 6);
    x.cancel(1);
    asked(-1, "22: NONE, GONE is not BOOKED", "ofStay", 1, 6);
    asked(0, "22: the ROOM of one that was WAITING", "ofStay", 2, 6);
    asked(1, "22: the ROOM of one that was WAITING", "ofStay", 3, 6);
    x.pass(1);
    asked(-1, "22: NONE, what lapsed is not BOOKED", "ofStay", 4, 6);
    x.cancel(3);
    asked(-1, "22: NONE, GONE is not BOOKED, it was WAITING once", "ofStay", 3, 6);
  }

  private static void ofStayHour() {
    make(0);
    x.pass(3);
    x.hold(0, 5, 1, 1, 1);
    x.hold(0, 6, 1, 1, 99);
    x.book(0, 7, 1, 1);
    x.queue(0, 7, 1, 1);
    x.hold(0, 8, 1, 1, 9);
    asked(4, "22: till HOUR and 1 more", "ofStay", 0, 7);
    asked(102, "22: till HOUR and 99 more", "ofStay", 1, 7);
    asked(-1, "22: NONE, PAID is not HELD", "ofStay", 2, 7);
    asked(-1, "22: NONE, WAITING is not HELD", "ofStay", 3, 7);
    x.pay(1);
    asked(-1, "22: NONE, PAID by now is not HELD", "ofStay", 1, 7);
    x.pass(1);
    asked(-1, "22: NONE, what lapsed is not HELD", "ofStay", 0, 7);
    asked(12, "22: still HELD till then", "ofStay", 4, 7);
    x.cancel(4);
    asked(-1, "22: NONE, GONE is not HELD", "ofStay", 4, 7);
  }

  private static void ofStayAhead() {
    make(0);
    x.book(0, 0, 1, 1);
    x.hold(0, 1, 1, 1, 9);
    x.queue(0, 0, 1, 1);
    x.queue(0, 1, 1, 1);
    x.queue(0, 0, 1, 1);
    asked(-1, "22: NONE, PAID is not WAITING", "ofStay", 0, 8);
    asked(-1, "22: NONE, HELD is not WAITING", "ofStay", 1, 8);
    asked(0, "22: none is WAITING ahead of it", "ofStay", 2, 8);
    asked(1, "22: one is WAITING ahead of it", "ofStay", 3, 8);
    asked(2, "22: two are WAITING ahead of it", "ofStay", 4, 8);
    x.cancel(1);
    asked(-1, "22: NONE, it got a ROOM", "ofStay", 3, 8);
    asked(0, "22: it is the first one still", "ofStay", 2, 8);
    asked(1, "22: one is WAITING ahead of it by now", "ofStay", 4, 8);
    x.cancel(2);
    asked(-1, "22: NONE, GONE is not WAITING", "ofStay", 2, 8);
    asked(0, "22: none is ahead of it any more", "ofStay", 4, 8);
  }

  private static void ofRoom() {
    make(0, 0);
    x.queue(1, 5, 1, 1);
    x.close(0, 5, 9);
    for (int what = 5; what <= 6; what++) {
      asked(-1, "23: NONE, a CLOSURE is no STAY", "ofRoom", 0, what);
      asked(-1, "23: NONE, nothing is there", "ofRoom", 1, what);
    }
    x.hold(0, 10, 1, 1, 1);
    asked(1, "23: one is the first", "ofRoom", 0, 5);
    asked(1, "23: and the last", "ofRoom", 0, 6);
    x.book(0, 0, 1, 1);
    x.book(0, 99, 1, 1);
    asked(2, "23: the one with the smallest FIRST, the first NIGHT", "ofRoom", 0, 5);
    asked(3, "23: the one with the greatest FIRST, the last NIGHT", "ofRoom", 0, 6);
    x.cancel(2);
    x.cancel(3);
    x.pass(1);
    asked(-1, "23: NONE, all are GONE", "ofRoom", 0, 5);
    asked(-1, "23: NONE, all are GONE", "ofRoom", 0, 6);
  }

  private static void at() {
    make(0, 0);
    for (int what = 0; what <= 4; what++) {
      asked(-1, "24: NONE, nobody", "at", 0, 50, what);
    }
    x.book(0, 50, 3, 1);
    x.close(0, 40, 49);
    asked(-1, "24: 0, NONE ahead of its FIRST", "at", 0, 49, 0);
    asked(0, "24: 0, from its FIRST", "at", 0, 50, 0);
    asked(0, "24: 0, up to its LAST", "at", 0, 52, 0);
    asked(-1, "24: 0, NONE behind its LAST", "at", 0, 53, 0);
    asked(-1, "24: 1, NONE ahead of its FIRST, a CLOSURE is no STAY", "at", 0, 49, 1);
    asked(0, "24: 1, from its FIRST", "at", 0, 50, 1);
    asked(0, "24: 1, up to its LAST without cleaning", "at", 0, 52, 1);
    asked(-1, "24: 1, NONE behind it", "at", 0, 53, 1);
    asked(-1, "24: 2, NONE: its FIRST is a later one", "at", 0, 49, 2);
    asked(0, "24: 2, its FIRST is that NIGHT", "at", 0, 50, 2);
    asked(0, "24: 2, its FIRST is far earlier", "at", 0, 99, 2);
    asked(0, "24: 3, its FIRST is far later", "at", 0, 0, 3);
    asked(0, "24: 3, its FIRST is the next one", "at", 0, 49, 3);
    asked(-1, "24: 3, NONE: its FIRST is that NIGHT", "at", 0, 50, 3);
    asked(-1, "24: 4, NONE: its FIRST is that NIGHT", "at", 0, 50, 4);
    asked(0, "24: 4, its FIRST is the one before", "at", 0, 51, 4);
    asked(0, "24: 4, its FIRST is far earlier", "at", 0, 99, 4);
    asked(-1, "24: 4, NONE is ahead of the first NIGHT", "at", 0, 0, 4);
    asked(-1, "24: 3, NONE is behind the last NIGHT", "at", 0, 99, 3);
    for (int what = 0; what <= 4; what++) {
      asked(-1, "24: NONE in the other ROOM", "at", 1, 51, what);
    }
  }

  private static void atWithCleaning() {
    make(0);
    x.clean(2);
    x.book(0, 0, 1, 1);
    x.hold(0, 3, 2, 1, 9);
    x.book(0, 99, 1, 1);
    asked(0, "24: 0, the first NIGHT", "at", 0, 0, 0);
    asked(-1, "24: 0, NONE while it is cleaned", "at", 0, 1, 0);
    asked(0, "24: 1, it TAKES the cleaning", "at", 0, 2, 1);
    asked(1, "24: 1, the next one is just behind", "at", 0, 3, 1);
    asked(1, "24: 1, up to its cleaning", "at", 0, 6, 1);
    asked(-1, "24: 1, NONE behind its cleaning", "at", 0, 7, 1);
    asked(0, "24: 2, the last one so far", "at", 0, 2, 2);
    asked(1, "24: 2, the later one of two", "at", 0, 3, 2);
    asked(1, "24: 3, the first one of two that come", "at", 0, 2, 3);
    asked(2, "24: 3, the last NIGHT is to come", "at", 0, 3, 3);
    asked(0, "24: 4, the earlier one", "at", 0, 3, 4);
    asked(1, "24: 4, the later one of two", "at", 0, 4, 4);
    asked(2, "24: 0, the last NIGHT", "at", 0, 99, 0);
    asked(2, "24: 1, the last NIGHT", "at", 0, 99, 1);
    asked(2, "24: 2, the last NIGHT", "at", 0, 99, 2);
    asked(1, "24: 4, ahead of the last NIGHT", "at", 0, 99, 4);
  }

  private static void between() {
    make(0, 0);
    x.book(0, 0, 3, 1);
    x.book(0, 10, 3, 1);
    x.book(0, 99, 1, 1);
    x.book(0, 10, 3, 1);
    x.queue(0, 10, 3, 1);
    counted(1, "25: from is to", "between", 0, 10, 10);
    counted(-9, "25: from is above to by one", "between", 0, 11, 10);
    counted(-9, "25: from is far above to", "between", 0, 99, 0);
    counted(3, "25: from is far below to", "between", 0, 0, 99);
    counted(1, "25: from the first NIGHT to the first one", "between", 0, 0, 0);
    counted(1, "25: from the last NIGHT to the last one", "between", 0, 99, 99);
    counted(0, "25: behind one FIRST till ahead of another one", "between", 0, 1, 9);
    counted(0, "25: just behind a FIRST", "between", 0, 11, 98);
    counted(1, "25: from a FIRST on", "between", 0, 10, 98);
    counted(1, "25: up to a FIRST", "between", 0, 1, 10);
    counted(1, "25: in the other ROOM", "between", 1, 0, 99);
    Check.is(2, x.house(10), "25: -9 was told twice");
  }

  private static void waiting() {
    make(0);
    counted(-9, "27: nobody is WAITING", "waiting", 0);
    x.book(0, 5, 1, 1);
    counted(-9, "27: BOOKED is not WAITING", "waiting", 0);
    x.queue(0, 5, 1, 1);
    counted(1, "27: the first one", "waiting", 0);
    counted(-9, "27: there is one", "waiting", 1);
    x.queue(0, 5, 1, 1);
    counted(2, "27: the second one", "waiting", 1);
    counted(-9, "27: there are two", "waiting", 2);
    counted(-9, "27: there are not so many by far", "waiting", Integer.MAX_VALUE);
    x.cancel(0);
    counted(2, "27: the first one has a ROOM now", "waiting", 0);
    counted(-9, "27: one is left", "waiting", 1);
    Check.is(6, x.house(10), "27: -9 was told six times");
  }

  // ---- promises 30 to 34 and 36

  private static void free() {
    make();
    asked(-1, "30: NONE, there is no ROOM", "free", 3, 5, 1, 0);
    asked(0, "30: the empty set, there is no ROOM", "free", 3, 5, 1, 1);
    make(1, 0, 0);
    asked(-1, "30: NONE of its KIND", "free", 2, 5, 1, 0);
    asked(0, "30: the empty set, none is of its KIND", "free", 2, 5, 1, 1);
    x.clean(1);
    x.book(0, 5, 2, 1);
    asked(2, "30: the smallest one that is FREE", "free", 0, 6, 1, 0);
    asked(4, "30: the set of one", "free", 0, 6, 1, 1);
    asked(0, "30: the smallest one of any KIND", "free", 3, 6, 1, 0);
    asked(5, "30: the set of two of any KIND", "free", 3, 6, 1, 1);
    asked(2, "30: while the first one is cleaned", "free", 0, 7, 1, 0);
    asked(1, "30: just behind its cleaning", "free", 0, 8, 20, 0);
    asked(6, "30: just behind its cleaning", "free", 0, 8, 20, 1);
    asked(4, "30: its own cleaning MEETS the first one", "free", 0, 3, 2, 1);
    asked(6, "30: just ahead of the first one", "free", 0, 2, 2, 1);
    x.close(2, 7, 7);
    asked(-1, "30: NONE, one is cleaned, one CLOSED", "free", 0, 7, 1, 0);
    asked(0, "30: the empty set, one is cleaned, one CLOSED", "free", 0, 7, 1, 1);
    x.queue(1, 7, 1, 1);
    asked(0, "30: one WAITING hinders nobody", "free", 1, 7, 1, 0);
  }

  private static void hinders() {
    make(0, 1);
    x.clean(1);
    asked(-1, "31: NONE, nobody is there", "hinders", 0, 0, 20);
    x.book(0, 10, 2, 1);
    x.hold(0, 16, 1, 1, 9);
    x.close(0, 20, 21);
    x.close(0, 0, 0);
    asked(-1, "31: NONE, between them", "hinders", 0, 13, 2);
    asked(0, "31: the cleaning of the one ahead", "hinders", 0, 12, 3);
    asked(1, "31: its own cleaning", "hinders", 0, 13, 3);
    asked(0, "31: of two the smaller FIRST", "hinders", 0, 12, 20);
    asked(1, "31: of a STAY and a CLOSURE the STAY comes first", "hinders", 0, 13, 20);
    asked(-2, "31: a CLOSURE", "hinders", 0, 18, 20);
    asked(-2, "31: a CLOSURE by its own cleaning", "hinders", 0, 18, 2);
    asked(-1, "31: NONE, just ahead of the CLOSURE", "hinders", 0, 18, 1);
    asked(-2, "31: the last NIGHT of the CLOSURE", "hinders", 0, 21, 1);
    asked(-1, "31: NONE, just behind the CLOSURE", "hinders", 0, 22, 20);
    asked(-2, "31: of a CLOSURE and a STAY the CLOSURE comes first", "hinders", 0, 0, 20);
    asked(-1, "31: NONE, just behind the first NIGHT", "hinders", 0, 1, 8);
    asked(0, "31: its own cleaning is there", "hinders", 0, 1, 9);
    asked(-1, "31: NONE in the other ROOM", "hinders", 1, 0, 20);
    x.queue(1, 30, 1, 1);
    asked(-1, "31: NONE, one WAITING does not", "hinders", 1, 30, 1);
    asked(-1, "31: NONE, whatever KIND the ROOM is", "hinders", 1, 99, 1);
  }

  private static void dealing() {
    make(0, 0);
    asked(-1, "32: NONE, none is BOOKED", "dealing", 2);
    x.close(0, 5, 9);
    x.queue(0, 5, 9, 1);
    asked(-1, "32: NONE, a CLOSURE and one WAITING are not BOOKED", "dealing", 2);
    asked(0, "32: no NIGHT is TAKEN", "dealing", 1);
    asked(0, "32: no ROOM is needed", "dealing", 0);
    x.hold(0, 0, 1, 1, 1);
    asked(0, "32: the first NIGHT", "dealing", 2);
    x.pass(1);
    Check.is(1, x.house(3), "32: the other one is BOOKED now");
    x.cancel(0);
    asked(-1, "32: NONE, all are GONE", "dealing", 2);
    x.clean(2);
    x.book(0, 99, 1, 1);
    asked(99, "32: the last NIGHT, the cleaning beyond it aside", "dealing", 2);
    asked(1, "32: one", "dealing", 1);
    x.book(0, 98, 2, 1);
    asked(99, "32: two", "dealing", 2);
    asked(2, "32: two, also beyond 99", "dealing", 1);
  }

  private static void dealt() {
    make(0, 0);
    x.hold(0, 5, 1, 1, 1);
    x.book(0, 5, 1, 1);
    x.queue(0, 5, 1, 1);
    asked(0, "33: a HELD one is BOOKED", "dealt", 0);
    asked(1, "33: a PAID one is BOOKED", "dealt", 1);
    asked(-1, "33: NONE, WAITING is not BOOKED", "dealt", 2);
    x.pass(1);
    asked(-1, "33: NONE, what lapsed is not BOOKED", "dealt", 0);
    asked(1, "33: it has a ROOM now, behind the other one by its number", "dealt", 2);
    x.cancel(1);
    asked(-1, "33: NONE, GONE is not BOOKED", "dealt", 1);
    asked(0, "33: alone", "dealt", 2);
  }

  private static void moves() {
    make();
    asked(-1, "34: NONE, there is no ROOM", "moves", 3, 5, 1);
    make(0, 0, 1);
    asked(-1, "34: NONE, there is no ROOM of its KIND", "moves", 2, 5, 1);
    asked(0, "34: 0, a ROOM of its KIND is FREE", "moves", 1, 5, 1);
    x.close(2, 5, 5);
    asked(-1, "34: NONE, a CLOSURE is put nowhere", "moves", 1, 5, 1);
    asked(0, "34: 0, another ROOM is FREE", "moves", 3, 5, 1);
    asked(0, "34: 0, just behind the CLOSURE", "moves", 1, 6, 1);
  }

  private static void odds() {
    make();
    asked(100000000, "36: n is 8", "odds", 50, 8, 10);
    make(0);
    x.clean(1);
    x.book(0, 50, 1, 1);
    asked(100000000, "36: n is 8", "odds", 50, 7, 10);
    asked(-1, "36: NONE, n is 9", "odds", 50, 8, 10);
    asked(-1, "36: NONE, n is 9, whatever the chance", "odds", 50, 8, 0);
    asked(100000000, "36: n is 8 the NIGHT before", "odds", 49, 8, 10);
    asked(100000000, "36: n is 8 while it is cleaned", "odds", 51, 8, 10);
    x.queue(0, 49, 9, 1);
    asked(100000000, "36: one WAITING does not count", "odds", 49, 8, 10);
    make(0, 0, 0, 0, 0, 0);
    x.group(0, 50, 2, 4, 1);
    x.group(0, 50, 2, 2, 1);
    asked(100000000, "36: n is 8, six and two", "odds", 51, 2, 10);
    asked(-1, "36: NONE, n is 9, six and three", "odds", 51, 3, 10);
    asked(-1, "36: NONE, n is 14, six and eight", "odds", 50, 8, 5);
    x.close(5, 60, 60);
    asked(0, "36: a CLOSURE does not count: six are not more than the ROOMS", "odds", 60, 6, 10);
  }
}
