/** Section 1 of the document, sentence by sentence: how much there is of everything at most. */
public final class LimitsTest {
  private static Used x;

  private LimitsTest() {
  }

  public static void main(String[] args) {
    roomsFromNone();
    roomsUpToSix();
    kindsOfRooms();
    firstAndLastNight();
    hours();
    clean();
    numbersOfStays();
    anyKind();
    lengthAndLast();
    lengthByOne();
    worth();
    heldAndPaid();
    lapsing();
    bookedOnes();
    takesWithoutCleaning();
    takesWithCleaning();
    takesBeyondTheLastNight();
    takesBeyondInEveryCall();
    closuresTakeJustThese();
    closuresOfOneRoom();
    meetByOneNight();
    isFreeForItself();
    smallestNumbers();
    sets();
    allOfTheHouse();
    as512Calls();
    Check.end();
  }

  private static void make(int... kinds) {
    x = new Used();
    for (int kind : kinds) {
      x.room(kind);
    }
  }

  private static void answers(Object due, String sentence, String name, int... a) {
    Sentence.answers(x, due, sentence, name, a);
  }

  private static void asked(Object due, String sentence, String name, int... a) {
    Sentence.asked(x, due, sentence, name, a);
  }

  private static void none(String sentence, String name, int... a) {
    Sentence.idle(x, -1, sentence, name, a);
  }

  /** ROOMS: at most 6, numbered from 0. */
  private static void roomsFromNone() {
    make();
    asked(0, "1: no ROOMS at first", "house", 0);
    asked(0, "1: no STAYS at first", "house", 1);
    asked(0, "1: nothing is TOLD at first", "house", 9);
    asked(-1, "1: no ROOM is FREE", "free", 3, 0, 1, 0);
    asked(0, "1: nobody is BOOKED", "busy", 99);
  }

  private static void roomsUpToSix() {
    make();
    for (int room = 0; room < 6; room++) {
      answers(room, "2: ROOMS are numbered from 0", "room", room % 3);
      asked(room + 1, "2: so many ROOMS", "house", 0);
      asked(room % 3, "2: its KIND", "ofRoom", room, 0);
      asked("....................", "2: nothing is in it", "text", room, 0);
    }
    for (int room = 0; room < 6; room++) {
      answers(room, "2: each of six ROOMS takes a STAY", "book", 3, 50, 1, 1);
    }
    none("2: a seventh STAY finds none", "book", 3, 50, 1, 1);
    asked(6, "2: six at once", "busy", 50);
    asked(6, "2: DEALING needs six", "dealing", 0);
    answers(6, "2: the sixth ROOM is closed behind its STAY", "queue", 3, 50, 1, 1);
    answers(5, "2: the sixth ROOM is left", "cancel", 5);
    asked(5, "2: who waited has the sixth ROOM", "ofStay", 6, 6);
  }

  /** Each of a KIND 0 to 2. */
  private static void kindsOfRooms() {
    make(2, 1, 0);
    for (int kind = 0; kind <= 2; kind++) {
      asked(1 << 2 - kind, "30: the ROOM of KIND " + kind, "free", kind, 0, 1, 1);
      answers(kind, "8: of KIND " + kind, "book", kind, 0, 1, 1);
      asked(2 - kind, "8: the ROOM of KIND " + kind, "ofStay", kind, 6);
    }
    for (int kind = 0; kind <= 2; kind++) {
      none("8: there is one ROOM of KIND " + kind, "book", kind, 0, 1, 1);
    }
  }

  /** NIGHTS: 0 to 99. */
  private static void firstAndLastNight() {
    make(0);
    answers(0, "8: the first NIGHT", "book", 0, 0, 1, 1);
    answers(1, "8: the last NIGHT", "book", 0, 99, 1, 1);
    answers(1, "3: the second NIGHT", "close", 0, 1, 1);
    answers(2, "3: the last NIGHT but one", "close", 0, 98, 98);
    asked("0#..................", "26: from the first NIGHT", "text", 0, 0);
    asked("..................#1", "26: 20 NIGHTS up to the last one", "text", 0, 80);
    asked(".................#1", "26: 19 NIGHTS up to the last one", "text", 0, 81);
    asked("#1", "26: two", "text", 0, 98);
    asked("1", "26: one", "text", 0, 99);
    asked(1, "28: the first NIGHT", "busy", 0);
    asked(0, "28: the second NIGHT", "busy", 1);
    asked(1, "28: the last NIGHT", "busy", 99);
    asked(200, "35: the first NIGHT is FULL", "price", 0, 0, 1);
    asked(200, "35: the last NIGHT is FULL", "price", 0, 99, 1);
    asked(100, "35: the last but one is not", "price", 0, 98, 1);
    asked(1, "36: one sleeps in the last NIGHT", "odds", 99, 1, 1);
  }

  /** HOUR is 0 at first, 9999 at most. */
  private static void hours() {
    make(0);
    asked(0, "7: HOUR is 0 at first", "house", 6);
    for (int i = 0; i < 101; i++) {
      answers(0, "7: 99 HOURS", "pass", 99);
    }
    asked(9999, "7: HOUR is 9999 at most", "house", 6);
    asked(102, "7: each is TOLD, and room()", "house", 9);
    x.undo();
    answers(0, "7: HOUR 9998", "pass", 98);
    x.hold(0, 0, 1, 1, 1);
    x.hold(0, 1, 1, 1, 2);
    answers(1, "7: what is HELD till 9999 lapses", "pass", 1);
    asked(0, "7: what is HELD till 10000 does not", "ofStay", 1, 5);
    asked(10000, "9: till an HOUR that never is", "ofStay", 1, 7);
    answers(1, "12: one HOUR is left of it", "pay", 1);
  }

  /** CLEAN: 0 to 2 NIGHTS (0 at first). */
  private static void clean() {
    for (int nights = 0; nights <= 2; nights++) {
      make(0);
      asked(0, "5: CLEAN is 0 at first", "house", 7);
      answers(0, "5: that before", "clean", nights);
      answers(nights, "5: that before", "clean", nights);
      asked(nights, "5: CLEAN", "house", 7);
      x.book(0, 50, 1, 1);
      asked(nights == 0 ? 0 : 1, "28: one NIGHT behind LAST", "busy", 51);
      asked(nights < 2 ? 0 : 1, "28: two NIGHTS behind LAST", "busy", 52);
      asked(0, "28: three NIGHTS behind LAST", "busy", 53);
    }
  }

  /** STAYS are numbered from 0 as they are asked for and kept. */
  private static void numbersOfStays() {
    make(0, 0);
    answers(0, "8: from 0", "book", 0, 0, 1, 1);
    answers(1, "9: the next one", "hold", 0, 0, 1, 1, 1);
    answers(-1, "8: not kept", "book", 0, 0, 1, 1);
    answers(2, "10: the next one", "queue", 0, 0, 1, 1);
    answers(3, "11: the first one of two", "group", 0, 1, 1, 2, 1);
    answers(5, "8: behind both", "book", 0, 2, 1, 1);
    answers(0, "13: the first one is GONE", "cancel", 0);
    answers(6, "8: its number is not given again", "book", 0, 3, 1, 1);
    asked(7, "29: so many were kept", "house", 1);
    x.undo();
    answers(6, "18: the number of what was undone is given again", "queue", 0, 3, 1, 1);
    for (int i = 0; i < 35; i++) {
      x.queue(0, 0, 1, 1);
      x.cancel(7 + i);
    }
    answers(42, "10: beyond 40", "queue", 0, 50, 1, 1);
    x.cancel(5);
    asked(0, "22: a number beyond 40 is in the first ROOM", "ofStay", 42, 6);
    asked("2...................", "26: its last digit", "text", 0, 50);
  }

  /** KIND 0 to 2, or 3: any. */
  private static void anyKind() {
    for (int kind = 0; kind <= 2; kind++) {
      make(kind);
      answers(0, "8: any KIND goes into each", "book", 3, 0, 1, 1);
      asked(3, "22: its KIND is any still", "ofStay", 0, 0);
      answers(1, "10: any KIND waits", "queue", 3, 0, 1, 1);
      answers(2, "10: another KIND waits", "queue", (kind + 1) % 3, 0, 1, 1);
      answers(0, "13: the ROOM", "cancel", 0);
      asked(1, "10: any KIND got the ROOM", "ofStay", 1, 5);
      x.cancel(1);
      asked(2, "10: another KIND does not", "ofStay", 2, 5);
    }
  }

  /** LENGTH 1 to 20; LAST is FIRST + LENGTH - 1, 99 at most. */
  private static void lengthAndLast() {
    make(0);
    x.book(0, 0, 20, 1);
    asked(19, "22: LAST", "ofStay", 0, 3);
    asked("00000000000000000000", "26: 20 NIGHTS", "text", 0, 0);
    asked("....................", "26: and no more", "text", 0, 20);
    asked(-1, "24: and no more", "at", 0, 20, 0);
    x.book(0, 80, 20, 1);
    asked(99, "22: LAST", "ofStay", 1, 3);
    asked("11111111111111111111", "26: the last 20 NIGHTS", "text", 0, 80);
    asked(-1, "24: not the one before", "at", 0, 79, 0);
    asked(40, "23: NIGHTS of both", "ofRoom", 0, 3);
    x.book(0, 50, 1, 1);
    asked(50, "22: LAST is FIRST with a LENGTH of 1", "ofStay", 2, 3);
    asked(41, "23: NIGHTS of all three", "ofRoom", 0, 3);
  }

  private static void lengthByOne() {
    make(0);
    x.book(0, 80, 1, 1);
    for (int length = 2; length <= 20; length++) {
      answers(length, "15: LENGTH then", "lengthen", 0, 1);
      asked(79 + length, "22: LAST then", "ofStay", 0, 3);
    }
    for (int length = 19; length >= 1; length--) {
      answers(length, "14: LENGTH then", "shorten", 0, 1);
      asked(length, "23: NIGHTS then", "ofRoom", 0, 3);
    }
    answers(20, "15: from 1 to 20", "lengthen", 0, 19);
    answers(1, "14: from 20 to 1", "shorten", 0, 19);
  }

  /** A WORTH (1 to 500). */
  private static void worth() {
    make(0, 0, 0, 0);
    for (int i = 0; i < 10; i++) {
      x.group(0, i, 1, 4, 500);
    }
    asked(20000, "29: 40 of 500", "house", 12);
    asked(5000, "23: 10 of 500", "ofRoom", 3, 4);
    x.cancel(0);
    x.book(0, 0, 1, 1);
    asked(19501, "29: 39 of 500, one of 1", "house", 12);
    asked(4501, "23: 9 of 500, one of 1", "ofRoom", 0, 4);
  }

  /** It is HELD (till an HOUR), PAID, WAITING, or GONE. */
  private static void heldAndPaid() {
    make(0);
    x.hold(0, 0, 1, 1, 2);
    asked(0, "22: HELD", "ofStay", 0, 5);
    x.book(0, 1, 1, 1);
    asked(1, "22: PAID", "ofStay", 1, 5);
    x.queue(0, 0, 1, 1);
    asked(2, "22: WAITING", "ofStay", 2, 5);
    answers(2, "12: the HOURS that are left", "pay", 0);
    asked(1, "22: PAID by now", "ofStay", 0, 5);
    x.cancel(0);
    asked(3, "22: GONE", "ofStay", 0, 5);
    asked(1, "22: PAID, not HELD, who waited", "ofStay", 2, 5);
    asked(0, "29: none is HELD", "house", 2);
    asked(2, "29: two are PAID", "house", 3);
    asked(0, "29: none is WAITING", "house", 4);
    asked(1, "29: one is GONE", "house", 5);
  }

  /** All HELD ones whose HOUR is not above HOUR then are GONE. */
  private static void lapsing() {
    make(0);
    x.pass(10);
    x.hold(0, 0, 1, 1, 5);
    x.hold(0, 1, 1, 1, 6);
    x.hold(0, 2, 1, 1, 5);
    answers(0, "7: one HOUR ahead of it", "pass", 4);
    answers(2, "7: just that HOUR", "pass", 1);
    asked(3, "7: GONE", "ofStay", 0, 5);
    asked(0, "7: one HOUR more", "ofStay", 1, 5);
    asked(3, "7: GONE", "ofStay", 2, 5);
    answers(1, "12: in its last HOUR", "pay", 1);
    answers(0, "7: PAID ones do not lapse", "pass", 99);
    x.hold(0, 5, 1, 1, 98);
    answers(1, "7: one HOUR behind it", "pass", 99);
    x.hold(0, 5, 1, 1, 99);
    answers(1, "7: the longest one", "pass", 99);
    x.hold(0, 5, 1, 1, 1);
    answers(1, "7: the shortest one", "pass", 1);
  }

  /** HELD and PAID ones are BOOKED: each in one ROOM. */
  private static void bookedOnes() {
    make(0, 0);
    x.hold(0, 5, 2, 10, 9);
    x.book(0, 5, 2, 20);
    x.queue(0, 5, 2, 40);
    asked(2, "28: both TAKE it", "busy", 6);
    asked(1, "23: one in each ROOM", "ofRoom", 0, 1);
    asked(1, "23: one in each ROOM", "ofRoom", 1, 1);
    asked(30, "29: WORTH of both", "house", 12);
    x.cancel(0);
    asked(60, "29: WORTH of those that are BOOKED then", "house", 12);
    x.cancel(1);
    asked(1, "28: one TAKES it", "busy", 6);
    asked(0, "23: nobody is in the second ROOM", "ofRoom", 1, 1);
    asked(40, "29: GONE ones do not count", "house", 12);
  }

  /** A STAY TAKES the NIGHTS from FIRST to LAST + CLEAN. */
  private static void takesWithoutCleaning() {
    make(0);
    x.book(0, 10, 3, 1);
    none("8: from its FIRST", "book", 0, 10, 1, 1);
    none("8: to its LAST", "book", 0, 12, 1, 1);
    answers(1, "8: not the one before", "book", 0, 9, 1, 1);
    answers(2, "8: not the one behind", "book", 0, 13, 1, 1);
    asked(".........10002......", "26: side by side", "text", 0, 0);
  }

  private static void takesWithCleaning() {
    make(0);
    x.clean(2);
    x.book(0, 10, 3, 1);
    none("8: from its FIRST", "book", 0, 10, 1, 1);
    none("8: while it is cleaned the first NIGHT", "book", 0, 13, 1, 1);
    none("8: while it is cleaned the second NIGHT", "book", 0, 14, 1, 1);
    none("8: its own cleaning is two NIGHTS", "book", 0, 9, 1, 1);
    none("8: its own cleaning is two NIGHTS", "book", 0, 8, 1, 1);
    answers(1, "8: just behind the cleaning", "book", 0, 15, 1, 1);
    answers(2, "8: its own cleaning is just ahead", "book", 0, 7, 1, 1);
    asked(".......2::000::1::..", "26: side by side", "text", 0, 0);
  }

  /** (Also beyond 99.) */
  private static void takesBeyondTheLastNight() {
    make(0, 0);
    x.clean(2);
    answers(0, "8: all of its cleaning is beyond 99", "book", 0, 99, 1, 1);
    answers(1, "8: one NIGHT of its cleaning is", "book", 0, 98, 1, 1);
    asked(1, "8: they MEET in the last NIGHT", "ofStay", 1, 6);
    asked("...................0", "26: nothing is told beyond 99", "text", 0, 80);
    asked("..................1:", "26: nothing is told beyond 99", "text", 1, 80);
    asked(2, "28: both TAKE the last NIGHT", "busy", 99);
    asked(2, "32: both TAKE it", "dealing", 1);
    asked(99, "32: the first such NIGHT", "dealing", 2);
    answers(0, "13: GONE, also beyond 99", "cancel", 0);
    answers(2, "8: again", "book", 0, 99, 1, 1);
    asked(0, "8: in the same ROOM", "ofStay", 2, 6);
    none("3: the last NIGHT is TAKEN", "close", 1, 99, 99);
    answers(1, "3: the last but two is not", "close", 1, 97, 97);
  }

  private static void takesBeyondInEveryCall() {
    make(0, 0);
    x.clean(2);
    x.hold(0, 97, 1, 1, 9);
    answers(3, "15: its cleaning comes to be beyond 99", "lengthen", 0, 2);
    answers(2, "14: less of it", "shorten", 0, 1);
    answers(0, "16: into the other ROOM", "move", 0, 1);
    asked(".................00:", "26: there", "text", 1, 80);
    asked("....................", "26: nothing is left", "text", 0, 80);
    answers(1, "17: dealt anew", "redeal");
    asked(".................00:", "26: back again", "text", 0, 80);
    asked("....................", "26: nothing is left", "text", 1, 80);
    asked(0, "31: who HINDERS the last NIGHT", "hinders", 0, 99, 1);
    asked(-1, "31: nobody HINDERS it there", "hinders", 1, 99, 1);
    asked(0, "34: the other ROOM is FREE", "moves", 0, 99, 1);
    x.close(1, 99, 99);
    asked(-1, "34: a CLOSURE of the last NIGHT", "moves", 0, 99, 1);
    asked(-1, "34: one put there would MEET the CLOSURE by its cleaning", "moves", 0, 97, 1);
    asked(2, "30: just ahead of the CLOSURE by its cleaning", "free", 0, 96, 1, 1);
    answers(1, "7: it lapses", "pass", 9);
    asked(1, "30: the first ROOM is FREE again", "free", 0, 97, 3, 1);
    x.queue(0, 99, 1, 5);
    x.queue(0, 97, 1, 5);
    asked(1, "37: they MEET in the last NIGHT", "oneRoom", 0);
    asked(1, "37: one NIGHT is enough", "oneRoom", 1);
    asked(5, "37: one of them", "oneRoom", 3);
  }

  /** CLOSURES of a ROOM: from a NIGHT to a NIGHT; it TAKES just these. */
  private static void closuresTakeJustThese() {
    make(0);
    x.clean(2);
    answers(1, "3: a CLOSURE", "close", 0, 10, 12);
    answers(2, "3: just behind it another one", "close", 0, 13, 13);
    answers(3, "3: just ahead of it another one", "close", 0, 8, 9);
    answers(0, "8: just behind them, nothing is cleaned", "book", 0, 14, 1, 1);
    answers(1, "8: just ahead of them, with its cleaning", "book", 0, 5, 1, 1);
    asked(".....1::######0::...", "26: side by side", "text", 0, 0);
    asked(0, "28: a CLOSURE is not busy", "busy", 10);
    asked(-1, "24: a CLOSURE is no STAY", "at", 0, 10, 1);
    asked(100, "35: a CLOSURE makes nothing FULL", "price", 0, 10, 1);
    asked(3, "23: CLOSURES", "ofRoom", 0, 2);
    answers(3, "4: the NIGHTS of the one in the middle", "open", 0, 10);
    asked(".....1::##...#0::...", "26: the others are left", "text", 0, 0);
    asked(2, "23: one CLOSURE less", "ofRoom", 0, 2);
    answers(3, "3: how many CLOSURES it has then", "close", 0, 10, 11);
    answers(4, "3: how many CLOSURES it has then", "close", 0, 50, 60);
    asked(4, "29: CLOSURES", "house", 8);
  }

  private static void closuresOfOneRoom() {
    make(0, 0, 0);
    x.close(1, 5, 9);
    asked("....................", "3: not this ROOM", "text", 0, 0);
    asked(".....#####..........", "3: this ROOM", "text", 1, 0);
    asked(5, "30: the others are FREE", "free", 0, 7, 1, 1);
    asked(0, "23: none in this ROOM", "ofRoom", 2, 2);
    asked(1, "29: CLOSURES of all", "house", 8);
    for (int night = 10; night <= 99; night++) {
      x.close(1, night, night);
    }
    asked(91, "23: as many as there are NIGHTS for", "ofRoom", 1, 2);
    asked(91, "29: as many as there are NIGHTS for", "house", 8);
  }

  /** Two (STAYS or CLOSURES) MEET, if they TAKE a NIGHT in common. */
  private static void meetByOneNight() {
    make(0);
    x.queue(0, 10, 3, 5);
    x.queue(0, 12, 3, 5);
    asked(1, "37: by one NIGHT", "oneRoom", 0);
    make(0);
    x.queue(0, 10, 3, 5);
    x.queue(0, 13, 3, 5);
    asked(2, "37: side by side they do not", "oneRoom", 0);
    asked(2, "37: one NIGHT is not enough", "oneRoom", 1);
    x.clean(1);
    asked(1, "37: by one NIGHT of cleaning", "oneRoom", 0);
    asked(1, "37: that one NIGHT is enough", "oneRoom", 1);
  }

  /** It is FREE, if no BOOKED STAY and no CLOSURE of it MEETS that one (itself aside). */
  private static void isFreeForItself() {
    make(0);
    x.clean(1);
    x.book(0, 10, 3, 1);
    answers(4, "15: it does not MEET itself", "lengthen", 0, 1);
    answers(5, "15: nor its own cleaning", "lengthen", 0, 1);
    asked(".....00000:.........", "26: all of it", "text", 0, 5);
    Sentence.idle(x, 0, "17: nor when it is dealt", "redeal");
    asked(-1, "34: but another one that would be does", "moves", 0, 10, 1);
  }

  /** Where one of several is taken and nothing else is said, it is that with the smallest number. */
  private static void smallestNumbers() {
    make(1, 0, 0, 0);
    answers(0, "8: the smallest ROOM of its KIND", "book", 0, 5, 1, 1);
    asked(1, "8: the smallest ROOM of its KIND", "ofStay", 0, 6);
    asked(2, "30: the next one", "free", 0, 5, 1, 0);
    asked(0, "30: any KIND: the first one", "free", 3, 5, 1, 0);
    x.cancel(0);
    asked(1, "30: the smallest one again", "free", 0, 5, 1, 0);
  }

  /** A set is the sum of 2^k for the numbers k in it. */
  private static void sets() {
    make(0, 0, 0, 0, 0, 0);
    asked(63, "30: all six", "free", 0, 5, 1, 1);
    for (int room = 0; room < 6; room++) {
      x.close(room, 5, 5);
      asked(63 - (2 << room) + 1, "30: one less", "free", 0, 5, 1, 1);
    }
    x.open(5, 5);
    asked(32, "30: the last one alone", "free", 0, 5, 1, 1);
    asked(5, "30: the last one", "free", 0, 5, 1, 0);
  }

  /** house() of 0 to 13, each another number. */
  private static void allOfTheHouse() {
    make(0, 1, 0);
    x.clean(1);
    x.pass(17);
    for (int i = 0; i < 3; i++) {
      x.hold(3, 10 * i, 1, 100, 99);
    }
    for (int i = 0; i < 5; i++) {
      x.book(3, 5 + 10 * i, 1, 10);
      x.cancel(x.queue(1, i, 1, 1));
      x.cancel(x.queue(1, i, 1, 1));
    }
    for (int i = 0; i < 9; i++) {
      x.close(i % 3, 80 + i, 80 + i);
    }
    for (int i = 0; i < 3; i++) {
      x.queue(2, i, 1, 1);
    }
    x.room(2);
    for (int i = 0; i < 5; i++) {
      x.queue(2, 0, 1, 1);
    }
    for (int i = 0; i < 12; i++) {
      x.blank();
      x.knock();
    }
    x.knock();
    x.knock();
    int[] due = {4, 26, 3, 7, 6, 10, 17, 1, 9, 51, 12, 14, 352, 2};
    for (int what = 0; what < due.length; what++) {
      asked(due[what], "29: " + what, "house", what);
    }
  }

  /** An object is used for at most 512 calls: all of them may be such as are TOLD. */
  private static void as512Calls() {
    make();
    for (int call = 0; call < 512; call++) {
      int before = call < 3 ? 100 : (call - 3) % 400;
      answers(before, "6: call " + call, "base", call % 3, call % 400);
    }
  }
}
