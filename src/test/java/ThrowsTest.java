/**
 * The 'Throws' lines of promises 2 to 37: each bound from both sides, each pair of exceptions that
 * apply at once (the one that is named first is thrown), and that nothing is changed by it.
 */
public final class ThrowsTest {
  private static final int LEAST = Integer.MIN_VALUE;
  private static final int GREATEST = Integer.MAX_VALUE;
  private static final String[] ASKING = {"book", "hold", "queue", "group"};
  private static Used x;

  private ThrowsTest() {
  }

  public static void main(String[] args) {
    room();
    close();
    open();
    clean();
    base();
    pass();
    for (String name : ASKING) {
      kindToBe(name);
      nightsToBe(name);
      worthToBe(name);
    }
    hoursToBe();
    manyToBe();
    fortyBooked();
    fortyWaiting();
    fortyOfBoth();
    fortyByGroups();
    fortyAndWrong();
    pay();
    cancel();
    shorten();
    lengthen();
    move();
    undo();
    ofStay();
    ofRoom();
    at();
    between();
    text();
    waiting();
    numberAlone("28: night is not 0 to 99", "busy", 0, 99);
    numberAlone("29: what is not 0 to 13", "house", 0, 13);
    numberAlone("32: what is not 0 to 2", "dealing", 0, 2);
    numberAlone("37: what is not 0 to 3", "oneRoom", 0, 3);
    wouldBe("free", 3);
    wouldBe("moves", 3);
    wouldBe("price", 2);
    hinders();
    dealt();
    odds();
    Check.end();
  }

  private static void make(int... kinds) {
    x = new Used();
    for (int kind : kinds) {
      x.room(kind);
    }
  }

  private static void answers(Object due, String sentence, String name, int... a) {
    Sentence.answers(x, due, sentence, name, a);
  }

  private static void argument(String sentence, String name, int... a) {
    Sentence.argument(x, sentence, name, a);
  }

  private static void state(String sentence, String name, int... a) {
    Sentence.state(x, sentence, name, a);
  }

  private static void index(String sentence, String name, int... a) {
    Sentence.index(x, sentence, name, a);
  }

  /** It throws nothing; a told call is undone. */
  private static void takes(String sentence, String name, int... a) {
    int told = x.house(9);
    String got = x.answer(name, a);
    Check.is(false, got.startsWith("throws."), sentence + ": " + name
        + java.util.Arrays.toString(a) + " answered " + got);
    if (x.house(9) > told) {
      x.undo();
    }
  }

  private static int[] with(int[] a, int place, int number) {
    int[] other = a.clone();
    other[place] = number;
    return other;
  }

  /** The number at that place may be from least to most, all others are as they stand there. */
  private static void bounds(String sentence, int least, int most, int place, String name,
      int... a) {
    takes(sentence, name, with(a, place, least));
    takes(sentence, name, with(a, place, most));
    for (int wrong : new int[] {least - 1, most + 1, LEAST, GREATEST}) {
      argument(sentence, name, with(a, place, wrong));
    }
  }

  private static void numberAlone(String sentence, String name, int least, int most) {
    make();
    bounds(sentence, least, most, 0, name, 0);
    make(0, 1);
    x.book(0, 98, 2, 7);
    x.queue(0, 98, 2, 7);
    bounds(sentence, least, most, 0, name, 0);
  }

  /** There are two ROOMS: none else will do, whatever else is wrong. */
  private static void roomsAlone(String sentence, String name, int... a) {
    takes(sentence, name, with(a, 0, 0));
    takes(sentence, name, with(a, 0, 1));
    for (int wrong : new int[] {-1, 2, LEAST, GREATEST}) {
      index(sentence, name, with(a, 0, wrong));
    }
  }

  // ---- the house

  private static void room() {
    make();
    bounds("2: kind is not 0 to 2", 0, 2, 0, "room", 0);
    make(0, 1, 2, 0);
    answers(4, "2: the fifth ROOM", "room", 1);
    answers(5, "2: the sixth ROOM", "room", 2);
    for (int kind = 0; kind <= 2; kind++) {
      state("2: there are 6", "room", kind);
    }
    argument("2: kind is named ahead of there are 6", "room", -1);
    argument("2: kind is named ahead of there are 6", "room", 3);
    x.undo();
    answers(5, "2: there are 5 again", "room", 0);
  }

  private static void close() {
    make(0, 1);
    roomsAlone("3: there is no such ROOM", "close", 0, 5, 9);
    bounds("3: from is not 0 to 99", 0, 99, 1, "close", 0, 50, 99);
    bounds("3: to is not from to 99", 40, 99, 2, "close", 1, 40, 50);
    argument("3: from is 100, and to", "close", 0, 100, 100);
    argument("3: to is below from", "close", 0, 99, 98);
    argument("3: to is below from", "close", 0, 99, 0);
    index("3: the ROOM is named ahead of from", "close", 2, -1, 5);
    index("3: the ROOM is named ahead of from", "close", -1, 100, 100);
    index("3: the ROOM is named ahead of to", "close", 2, 5, 4);
    index("3: the ROOM is named ahead of to", "close", -1, 5, 100);
    x.close(0, 0, 99);
    argument("3: to above 99, also if it MEETS one", "close", 0, 50, 100);
    argument("3: to below from, also if it MEETS one", "close", 0, 50, 49);
    make();
    index("3: there is no ROOM at all", "close", 0, 0, 0);
  }

  private static void open() {
    make(0, 1);
    roomsAlone("4: there is no such ROOM", "open", 0, 5);
    bounds("4: from is not 0 to 99", 0, 99, 1, "open", 0, 0);
    x.close(1, 0, 99);
    bounds("4: from is not 0 to 99", 0, 99, 1, "open", 1, 0);
    index("4: the ROOM is named ahead of from", "open", 2, 100);
    index("4: the ROOM is named ahead of from", "open", -1, -1);
    make();
    index("4: there is no ROOM at all", "open", 0, 0);
  }

  private static void clean() {
    make(0);
    bounds("5: nights is not 0 to 2", 0, 2, 0, "clean", 0);
    x.queue(0, 5, 1, 1);
    takes("5: one WAITING is not BOOKED", "clean", 2);
    int held = x.hold(0, 50, 1, 1, 1);
    for (int nights = 0; nights <= 2; nights++) {
      state("5: a HELD STAY is BOOKED", "clean", nights);
    }
    argument("5: nights is named ahead of a BOOKED STAY", "clean", 3);
    argument("5: nights is named ahead of a BOOKED STAY", "clean", -1);
    x.pay(held);
    state("5: a PAID STAY is BOOKED", "clean", 1);
    argument("5: nights is named ahead of a PAID STAY", "clean", 3);
    x.cancel(held);
    x.cancel(0);
    Check.is(2, x.house(5), "5: both are GONE");
    answers(0, "5: a GONE STAY is not BOOKED", "clean", 2);
  }

  private static void base() {
    make(0);
    bounds("6: kind is not 0 to 2", 0, 2, 0, "base", 0, 70);
    bounds("6: base is not 0 to 500", 0, 500, 1, "base", 1, 70);
    argument("6: both are wrong", "base", 3, 501);
    argument("6: both are wrong", "base", -1, -1);
  }

  private static void toHour(int hour) {
    while (x.house(6) < hour) {
      x.pass(Math.min(99, hour - x.house(6)));
    }
  }

  private static void pass() {
    make(0);
    bounds("7: hours is not 1 to 99", 1, 99, 0, "pass", 1);
    toHour(9950);
    takes("7: HOUR would be 9999", "pass", 49);
    state("7: HOUR would be 10000", "pass", 50);
    state("7: HOUR would be above 9999", "pass", 99);
    argument("7: hours is named ahead of HOUR", "pass", 100);
    argument("7: hours is named ahead of HOUR", "pass", GREATEST);
    x.hold(0, 0, 1, 1, 50);
    answers(0, "7: HOUR is 9998", "pass", 48);
    state("7: HOUR would be 10000", "pass", 2);
    answers(0, "7: HOUR is 9999", "pass", 1);
    state("7: HOUR would be 10000; the HELD one does not lapse by that", "pass", 1);
    argument("7: hours is named ahead of HOUR", "pass", 0);
    argument("7: hours is named ahead of HOUR", "pass", 100);
    Check.is(0, x.ofStay(0, 5), "7: HELD till an HOUR that never is");
  }

  // ---- stays

  /** What the call is given, with the four numbers that all of them have. */
  private static int[] given(String name, int kind, int first, int length, int worth) {
    switch (name) {
      case "hold": return new int[] {kind, first, length, worth, 5};
      case "group": return new int[] {kind, first, length, 2, worth};
      default: return new int[] {kind, first, length, worth};
    }
  }

  private static String promise(String name) {
    return name.equals("book") ? "8: " : name.equals("hold") ? "9: "
        : name.equals("queue") ? "10: " : "11: ";
  }

  private static void kindToBe(String name) {
    make(0, 0);
    bounds(promise(name) + "kind is not 0 to 3", 0, 3, 0, name, given(name, 0, 5, 2, 7));
    make();
    bounds(promise(name) + "kind is not 0 to 3, without ROOMS", 0, 3, 0, name,
        given(name, 0, 5, 2, 7));
  }

  private static void nightsToBe(String name) {
    make(0, 0);
    String p = promise(name);
    bounds(p + "first is not 0 to 99", 0, 99, 1, name, given(name, 0, 5, 1, 7));
    bounds(p + "length is not 1 to 20", 1, 20, 2, name, given(name, 0, 5, 2, 7));
    bounds(p + "length is not 1 to 20, till the last NIGHT", 1, 20, 2, name,
        given(name, 0, 80, 2, 7));
    takes(p + "LAST is 99", name, given(name, 0, 99, 1, 7));
    takes(p + "LAST is 99", name, given(name, 0, 90, 10, 7));
    argument(p + "LAST is 100", name, given(name, 0, 99, 2, 7));
    argument(p + "LAST is 100", name, given(name, 0, 90, 11, 7));
    argument(p + "LAST is 100", name, given(name, 0, 81, 20, 7));
    argument(p + "LAST is far above 99", name, given(name, 0, 99, 20, 7));
    argument(p + "FIRST and LENGTH wrap around", name, given(name, 0, GREATEST, GREATEST, 7));
    argument(p + "LAST wraps around", name, given(name, 0, 99, GREATEST, 7));
    x.clean(2);
    takes(p + "the cleaning may be beyond 99", name, given(name, 0, 80, 20, 7));
  }

  private static void worthToBe(String name) {
    make(0, 0);
    int place = name.equals("group") ? 4 : 3;
    bounds(promise(name) + "worth is not 1 to 500", 1, 500, place, name, given(name, 0, 5, 2, 7));
  }

  private static void hoursToBe() {
    make(0);
    bounds("9: hours is not 1 to 99", 1, 99, 4, "hold", 0, 5, 2, 7, 5);
    toHour(9999);
    takes("9: HOUR and 99 more may be above 9999", "hold", 0, 5, 2, 7, 99);
  }

  private static void manyToBe() {
    make(0, 0, 0, 0, 0);
    bounds("11: many is not 2 to 4", 2, 4, 3, "group", 0, 5, 2, 3, 7);
  }

  private static void fortyRefuse(String sentence) {
    for (String name : ASKING) {
      state(promise(name) + sentence, name, given(name, 0, 50, 1, 1));
    }
  }

  private static void fortyBooked() {
    make(0, 0);
    for (int i = 0; i < 39; i++) {
      x.book(0, i, 1, 1);
    }
    Check.is(39, x.hold(0, 39, 1, 1, 9), "9: the 40th");
    Check.is(40, x.house(2) + x.house(3), "8 to 11: 40 are BOOKED");
    fortyRefuse("40 are BOOKED, one of them HELD");
    x.pass(9);
    for (String name : ASKING) {
      if (!name.equals("group")) {
        takes(promise(name) + "one of 40 is GONE", name, given(name, 0, 50, 1, 1));
      }
    }
    state("11: 41 would be", "group", given("group", 0, 50, 1, 1));
  }

  private static void fortyWaiting() {
    make();
    for (int i = 0; i < 40; i++) {
      answers(i, "10: up to the 40th", "queue", 0, 50, 1, 1);
    }
    fortyRefuse("40 are WAITING");
    x.cancel(17);
    answers(40, "10: one of 40 is GONE", "queue", 0, 50, 1, 1);
    fortyRefuse("40 are WAITING again");
    x.undo();
    answers(-1, "8: 39 are WAITING: it gets no ROOM", "book", 0, 50, 1, 1);
    answers(40, "10: what got no ROOM does not count", "queue", 0, 50, 1, 1);
  }

  private static void fortyOfBoth() {
    make(0);
    for (int i = 0; i < 20; i++) {
      x.book(0, i, 1, 1);
      x.queue(0, 0, 1, 1);
    }
    fortyRefuse("20 are BOOKED, 20 are WAITING");
    x.cancel(0);
    Check.is(39, x.house(3) + x.house(4), "8: one WAITING got its ROOM, one is GONE");
    answers(40, "8: the 40th", "book", 0, 50, 1, 1);
    fortyRefuse("20 are BOOKED, 20 are WAITING again");
  }

  private static void fortyByGroups() {
    for (int many = 2; many <= 4; many++) {
      make(0, 0, 0, 0);
      for (int i = 0; i < 40 - many; i++) {
        x.queue(0, 0, 1, 1);
      }
      takes("11: just 40 would be", "group", 0, 50, 1, many, 1);
      x.queue(0, 0, 1, 1);
      state("11: 41 would be", "group", 0, 50, 1, many, 1);
      if (many > 2) {
        takes("11: just 40 would be", "group", 0, 50, 1, many - 1, 1);
      }
      takes("8: 40 would be", "book", 0, 50, 1, 1);
    }
  }

  private static void fortyAndWrong() {
    make(0, 0);
    for (int i = 0; i < 40; i++) {
      x.queue(0, 0, 1, 1);
    }
    String order = "what is wrong is named ahead of 40";
    for (String name : ASKING) {
      argument(promise(name) + order, name, given(name, -1, 50, 1, 1));
      argument(promise(name) + order, name, given(name, 4, 50, 1, 1));
      argument(promise(name) + order, name, given(name, 0, -1, 1, 1));
      argument(promise(name) + order, name, given(name, 0, 100, 1, 1));
      argument(promise(name) + order, name, given(name, 0, 50, 0, 1));
      argument(promise(name) + order, name, given(name, 0, 50, 21, 1));
      argument(promise(name) + order, name, given(name, 0, 99, 2, 1));
      argument(promise(name) + order, name, given(name, 0, 50, 1, 0));
      argument(promise(name) + order, name, given(name, 0, 50, 1, 501));
      state(promise(name) + "40 also without a ROOM", name, given(name, 2, 50, 1, 1));
    }
    argument("9: " + order, "hold", 0, 50, 1, 1, 0);
    argument("9: " + order, "hold", 0, 50, 1, 1, 100);
    argument("11: " + order, "group", 0, 50, 1, 1, 1);
    argument("11: " + order, "group", 0, 50, 1, 5, 1);
  }

  /** STAY 0 is HELD, 1 PAID, 2 WAITING, 3 GONE (it was PAID), 4 GONE (it lapsed), 5 GONE (it was
   * WAITING), 6 HELD with a LENGTH of 20 and a LAST of 99. */
  private static void sevenStays() {
    make(0, 0);
    x.hold(0, 10, 2, 5, 99);
    x.book(0, 12, 3, 5);
    x.queue(0, 10, 5, 5);
    x.book(0, 30, 9, 5);
    x.hold(0, 40, 9, 5, 1);
    x.queue(0, 50, 9, 5);
    x.hold(0, 80, 20, 5, 99);
    x.close(1, 0, 99);
    x.cancel(5);
    x.cancel(3);
    x.pass(1);
    for (int stay = 0; stay <= 6; stay++) {
      Check.is(new int[] {0, 1, 2, 3, 3, 3, 0}[stay], x.ofStay(stay, 5), "12 to 16: STAY " + stay);
    }
  }

  private static void noSuchStay(String sentence, String name, int... a) {
    for (int stay : new int[] {-1, x.house(1), LEAST, GREATEST}) {
      index(sentence, name, with(a, 0, stay));
    }
  }

  private static void pay() {
    make(0);
    index("12: there is no STAY at all", "pay", 0);
    x.book(0, 0, 1, 1);
    x.hold(0, 1, 1, 1, 1);
    x.hold(0, 2, 1, 1, 9);
    x.queue(0, 0, 1, 1);
    x.hold(0, 3, 1, 1, 9);
    noSuchStay("12: there is no such STAY", "pay", 0);
    state("12: PAID is not HELD", "pay", 0);
    x.pass(1);
    state("12: what lapsed is not HELD", "pay", 1);
    state("12: WAITING is not HELD", "pay", 3);
    x.cancel(4);
    state("12: what was cancelled is not HELD", "pay", 4);
    answers(8, "12: HELD", "pay", 2);
    state("12: PAID by now is not HELD", "pay", 2);
    noSuchStay("12: there is no such STAY", "pay", 0);
  }

  private static void cancel() {
    make(0);
    index("13: there is no STAY at all", "cancel", 0);
    x.book(0, 0, 1, 1);
    x.hold(0, 1, 1, 1, 1);
    x.queue(1, 0, 1, 1);
    noSuchStay("13: there is no such STAY", "cancel", 0);
    x.pass(1);
    state("13: what lapsed is GONE", "cancel", 1);
    takes("13: PAID is not GONE", "cancel", 0);
    takes("13: WAITING is not GONE", "cancel", 2);
    x.cancel(0);
    state("13: what was PAID is GONE", "cancel", 0);
    x.cancel(2);
    state("13: what was WAITING is GONE", "cancel", 2);
    noSuchStay("13: there is no such STAY, all are GONE", "cancel", 0);
  }

  private static void shorten() {
    sevenStays();
    noSuchStay("14: there is no such STAY", "shorten", 0, 1);
    noSuchStay("14: the STAY is named ahead of nights", "shorten", 0, 0);
    noSuchStay("14: the STAY is named ahead of nights", "shorten", 0, 21);
    for (int wrong : new int[] {0, 21, -1, LEAST, GREATEST}) {
      argument("14: nights is not 1 to 20", "shorten", 6, wrong);
      argument("14: nights is named ahead of LENGTH", "shorten", 0, wrong);
      argument("14: nights is named ahead of GONE", "shorten", 3, wrong);
      argument("14: nights is named ahead of GONE", "shorten", 4, wrong);
    }
    takes("14: LENGTH of 20 is more than 1", "shorten", 6, 1);
    takes("14: LENGTH of 20 is more than 19", "shorten", 6, 19);
    state("14: LENGTH of 20 is not more than 20", "shorten", 6, 20);
    takes("14: LENGTH of 2 is more than 1", "shorten", 0, 1);
    state("14: LENGTH of 2 is not more than 2", "shorten", 0, 2);
    state("14: LENGTH of 2 is not more than 3", "shorten", 0, 3);
    state("14: LENGTH of 3 is not more than 20", "shorten", 1, 20);
    for (int gone = 3; gone <= 5; gone++) {
      state("14: GONE", "shorten", gone, 1);
      state("14: GONE, nor is LENGTH more", "shorten", gone, 9);
    }
    make();
    x.queue(0, 0, 2, 1);
    takes("14: WAITING, LENGTH of 2 is more than 1", "shorten", 0, 1);
    state("14: WAITING, LENGTH of 2 is not more than 2", "shorten", 0, 2);
  }

  private static void lengthen() {
    sevenStays();
    noSuchStay("15: there is no such STAY", "lengthen", 0, 1);
    noSuchStay("15: the STAY is named ahead of nights", "lengthen", 0, 0);
    noSuchStay("15: the STAY is named ahead of nights", "lengthen", 0, 21);
    for (int wrong : new int[] {0, 21, -1, LEAST, GREATEST}) {
      argument("15: nights is not 1 to 20", "lengthen", 1, wrong);
      argument("15: nights is named ahead of LENGTH and LAST", "lengthen", 6, wrong);
      argument("15: nights is named ahead of GONE", "lengthen", 3, wrong);
      argument("15: nights is named ahead of GONE", "lengthen", 4, wrong);
    }
    for (int gone = 3; gone <= 5; gone++) {
      state("15: GONE", "lengthen", gone, 1);
      state("15: GONE, and LENGTH would be above 20", "lengthen", gone, 20);
    }
    state("15: LENGTH above 20 and LAST above 99", "lengthen", 6, 1);
    make(0, 0);
    x.book(0, 10, 1, 1);
    x.queue(0, 10, 1, 1);
    x.book(0, 10, 4, 1);
    for (int stay = 0; stay <= 1; stay++) {
      takes("15: by 1", "lengthen", stay, 1);
      takes("15: LENGTH would be 20", "lengthen", stay, 19);
      state("15: LENGTH would be 21", "lengthen", stay, 20);
    }
    takes("15: LENGTH would be 20", "lengthen", 2, 16);
    state("15: LENGTH would be 21", "lengthen", 2, 17);
    lengthenAtTheEnd();
  }

  private static void lengthenAtTheEnd() {
    make(0, 0);
    x.book(0, 97, 1, 1);
    x.queue(0, 97, 1, 1);
    x.hold(0, 90, 6, 1, 9);
    for (int stay = 0; stay <= 1; stay++) {
      takes("15: LAST would be 99", "lengthen", stay, 2);
      state("15: LAST would be 100", "lengthen", stay, 3);
      state("15: LAST would be 116", "lengthen", stay, 19);
    }
    answers(-1, "15: LAST would be 98, the ROOM is not FREE", "lengthen", 2, 3);
    state("15: LAST would be 100, nor is the ROOM FREE", "lengthen", 2, 5);
    state("15: LENGTH would be 21, nor is the ROOM FREE", "lengthen", 2, 15);
    make(0);
    x.clean(2);
    x.book(0, 95, 3, 1);
    answers(5, "15: the cleaning may be beyond 99", "lengthen", 0, 2);
    state("15: LAST would be 100", "lengthen", 0, 1);
  }

  private static void move() {
    make(0, 0);
    x.book(0, 10, 2, 5);
    x.queue(0, 10, 2, 5);
    x.queue(1, 10, 2, 5);
    x.hold(0, 20, 2, 5, 1);
    x.book(0, 30, 2, 5);
    x.hold(0, 40, 2, 5, 99);
    x.cancel(4);
    x.pass(1);
    int waits = 2;
    noSuchStay("16: there is no such STAY", "move", 0, 0);
    noSuchStay("16: there is no such STAY, nor ROOM", "move", 0, 2);
    for (int room : new int[] {-1, 2, LEAST, GREATEST}) {
      index("16: there is no such ROOM", "move", 5, room);
      index("16: the ROOM is named ahead of WAITING", "move", waits, room);
      index("16: the ROOM is named ahead of GONE", "move", 3, room);
    }
    for (int room = 0; room <= 1; room++) {
      state("16: WAITING is not BOOKED", "move", waits, room);
      state("16: what lapsed is not BOOKED", "move", 3, room);
      state("16: what was cancelled is not BOOKED", "move", 4, room);
      takes("16: HELD is BOOKED", "move", 5, room);
    }
  }

  private static void undo() {
    make();
    state("18: nothing is TOLD", "undo");
    x.blank();
    x.tear();
    x.knock();
    x.waiting(0);
    x.digest();
    x.answer("room", new int[] {3});
    state("18: what is not TOLD is nothing", "undo");
    x.room(0);
    answers(0, "18: one was TOLD", "undo");
    state("18: nothing is TOLD any more", "undo");
  }

  // ---- what is asked

  private static void ofStay() {
    sevenStays();
    for (int stay = 0; stay <= 6; stay++) {
      bounds("22: what is not 0 to 8", 0, 8, 1, "ofStay", stay, 0);
    }
    for (int what : new int[] {0, 8, -1, 9}) {
      noSuchStay("22: there is no such STAY, also with a wrong what", "ofStay", 0, what);
    }
    make(0);
    index("22: there is no STAY at all", "ofStay", 0, 0);
  }

  private static void ofRoom() {
    make(0, 1);
    x.book(1, 5, 2, 7);
    roomsAlone("23: there is no such ROOM", "ofRoom", 0, 0);
    bounds("23: what is not 0 to 6", 0, 6, 1, "ofRoom", 0, 0);
    bounds("23: what is not 0 to 6", 0, 6, 1, "ofRoom", 1, 0);
    index("23: the ROOM is named ahead of what", "ofRoom", 2, 7);
    index("23: the ROOM is named ahead of what", "ofRoom", -1, -1);
    make();
    index("23: there is no ROOM at all", "ofRoom", 0, 0);
  }

  private static void at() {
    make(0, 1);
    x.book(1, 98, 2, 7);
    roomsAlone("24: there is no such ROOM", "at", 0, 0, 0);
    bounds("24: night is not 0 to 99", 0, 99, 1, "at", 1, 0, 0);
    for (int what = 0; what <= 4; what++) {
      bounds("24: night is not 0 to 99", 0, 99, 1, "at", 1, 0, what);
    }
    bounds("24: what is not 0 to 4", 0, 4, 2, "at", 1, 99, 0);
    argument("24: both are wrong", "at", 1, 100, 5);
    index("24: the ROOM is named ahead of night", "at", 2, 100, 0);
    index("24: the ROOM is named ahead of night", "at", -1, -1, 0);
    index("24: the ROOM is named ahead of what", "at", 2, 0, 5);
    index("24: the ROOM is named ahead of what", "at", -1, 0, -1);
  }

  private static void between() {
    make(0, 1);
    x.book(1, 98, 2, 7);
    roomsAlone("25: there is no such ROOM", "between", 0, 0, 99);
    bounds("25: from is not 0 to 99", 0, 99, 1, "between", 1, 0, 99);
    bounds("25: to is not 0 to 99", 0, 99, 2, "between", 1, 0, 99);
    argument("25: to is wrong, and from above it", "between", 1, 0, -1);
    argument("25: from is wrong, and above to", "between", 1, 100, 99);
    index("25: the ROOM is named ahead of from", "between", 2, -1, 0);
    index("25: the ROOM is named ahead of to", "between", -1, 0, 100);
    index("25: the ROOM is named ahead of -9", "between", 2, 9, 0);
    Check.is(0, x.house(10), "25: no -9 was told");
  }

  private static void text() {
    make(0, 1);
    x.book(1, 98, 2, 7);
    roomsAlone("26: there is no such ROOM", "text", 0, 0);
    bounds("26: from is not 0 to 99", 0, 99, 1, "text", 1, 0);
    index("26: the ROOM is named ahead of from", "text", 2, 100);
    index("26: the ROOM is named ahead of from", "text", -1, -1);
  }

  private static void waiting() {
    make();
    argument("27: nth is below 0", "waiting", -1);
    argument("27: nth is below 0", "waiting", LEAST);
    Check.is(0, x.house(10), "27: no -9 was told");
    x.queue(0, 0, 1, 1);
    answers(0, "27: nth is not below 0", "waiting", 0);
    argument("27: nth is below 0", "waiting", -1);
    argument("27: nth is below 0", "waiting", -9);
    Check.is(0, x.house(10), "27: no -9 was told");
  }

  private static int[] wouldGiven(String name, int kind, int first, int length) {
    return name.equals("free") ? new int[] {kind, first, length, 1}
        : new int[] {kind, first, length};
  }

  private static void wouldBe(String name, int lastKind) {
    String p = name.equals("free") ? "30: " : name.equals("moves") ? "34: " : "35: ";
    for (int rooms = 0; rooms <= 2; rooms++) {
      make();
      for (int room = 0; room < rooms; room++) {
        x.room(0);
        x.book(0, 80, 20, 1);
      }
      bounds(p + "kind is not 0 to " + lastKind, 0, lastKind, 0, name, wouldGiven(name, 0, 5, 2));
      bounds(p + "first is not 0 to 99", 0, 99, 1, name, wouldGiven(name, 0, 5, 1));
      bounds(p + "length is not 1 to 20", 1, 20, 2, name, wouldGiven(name, 0, 5, 1));
      bounds(p + "length is not 1 to 20", 1, 20, 2, name, wouldGiven(name, 0, 80, 1));
      takes(p + "the last NIGHT is 99", name, wouldGiven(name, 0, 99, 1));
      argument(p + "the last NIGHT is 100", name, wouldGiven(name, 0, 99, 2));
      argument(p + "the last NIGHT is 100", name, wouldGiven(name, 0, 81, 20));
      argument(p + "the last NIGHT wraps around", name, wouldGiven(name, 0, GREATEST, GREATEST));
    }
    if (name.equals("free")) {
      argument("30: the smallest one, too: kind", "free", 4, 5, 1, 0);
      argument("30: the smallest one, too: LAST is 100", "free", 0, 99, 2, 0);
      takes("30: the smallest one, too", "free", 3, 99, 1, 0);
    }
  }

  private static void hinders() {
    make(0, 1);
    x.book(1, 98, 2, 7);
    roomsAlone("31: there is no such ROOM", "hinders", 0, 5, 1);
    for (int room = 0; room <= 1; room++) {
      bounds("31: first is not 0 to 99", 0, 99, 1, "hinders", room, 5, 1);
      bounds("31: length is not 1 to 20", 1, 20, 2, "hinders", room, 80, 1);
      takes("31: LAST is 99", "hinders", room, 99, 1);
      argument("31: LAST is 100", "hinders", room, 99, 2);
      argument("31: LAST is 100", "hinders", room, 81, 20);
      argument("31: LAST wraps around", "hinders", room, GREATEST, GREATEST);
    }
    index("31: the ROOM is named ahead of first", "hinders", 2, 100, 1);
    index("31: the ROOM is named ahead of first", "hinders", -1, -1, 1);
    index("31: the ROOM is named ahead of length", "hinders", 2, 0, 0);
    index("31: the ROOM is named ahead of length", "hinders", -1, 0, 21);
    index("31: the ROOM is named ahead of LAST", "hinders", 2, 99, 2);
  }

  private static void dealt() {
    make(0);
    index("33: there is no STAY at all", "dealt", 0);
    x.book(0, 0, 1, 1);
    x.queue(0, 0, 1, 1);
    x.book(0, 0, 1, 1);
    noSuchStay("33: there is no such STAY", "dealt", 0);
    takes("33: the first one", "dealt", 0);
    takes("33: the last one", "dealt", 1);
  }

  private static void odds() {
    make(0);
    bounds("36: night is not 0 to 99", 0, 99, 0, "odds", 0, 2, 5);
    bounds("36: more is not 0 to 8", 0, 8, 1, "odds", 0, 2, 5);
    bounds("36: chance is not 0 to 10", 0, 10, 2, "odds", 0, 2, 5);
    x.book(0, 99, 1, 1);
    answers(-1, "36: n is above 8", "odds", 99, 8, 10);
    argument("36: more is 9, and n above 8", "odds", 99, 9, 10);
    argument("36: chance is 11, and n above 8", "odds", 99, 8, 11);
    argument("36: chance is -1, and n above 8", "odds", 99, 8, -1);
    argument("36: all are wrong", "odds", 100, 9, 11);
  }
}
