/** Section 2: how a ROOM is found, who HINDERS, GROUP, DEALING, FEWEST MOVES, and redeal(). */
public final class RoomsTest {
  private static Used x;

  private RoomsTest() {
  }

  public static void main(String[] args) {
    smallestRoom();
    hinders();
    groupSideBySide();
    groupOfTheKind();
    groupInOrder();
    dealingByFirst();
    dealingInTheFirstNight();
    dealingByNumber();
    dealingToTheLowest();
    dealingInThought();
    dealingNeeds();
    mostInOneNight();
    redealByKind();
    redealOrder();
    redealAroundClosures();
    redealAroundTheFirstNight();
    redealChangesNothing();
    movesNone();
    movesOfOne();
    movesOfOneByKind();
    movesOfOneByClosures();
    movesOfTwoHinderers();
    movesOfThreeHinderers();
    movesOfTwoInAChain();
    movesOfTheFirstNumber();
    movesByTheFirstRoom();
    movesOfTwoChanging();
    movesOfTwoChangingAndClosures();
    movesTheFewest();
    movesWithCleaning();
    movesInLastNights();
    movesInThought();
    Check.end();
  }

  private static void make(int... kinds) {
    x = new Used();
    for (int kind : kinds) {
      x.room(kind);
    }
  }

  private static void answers(Object due, String sentence, String name, int... a) {
    Sentence.answers(x, due, sentence, name, a);
  }

  private static void asked(Object due, String sentence, String name, int... a) {
    Sentence.asked(x, due, sentence, name, a);
  }

  /** Books a STAY that must come into that ROOM. */
  private static int put(int room, int kind, int first, int length) {
    int stay = x.book(kind, first, length, 1);
    Check.is(room, x.ofStay(stay, 6), "8: STAY " + stay + " is where the test wants it");
    return stay;
  }

  private static void rooms(String sentence, int... due) {
    for (int stay = 0; stay < due.length; stay++) {
      asked(due[stay], sentence, "ofStay", stay, 6);
    }
  }

  private static void dealt(String sentence, int... due) {
    for (int stay = 0; stay < due.length; stay++) {
      asked(due[stay], sentence, "dealt", stay);
    }
  }

  // ---- a STAY gets the ROOM with the smallest number that is of its KIND and FREE for it

  private static void smallestRoom() {
    make(1, 0, 2, 0, 1, 0);
    int[] kinds = {0, 0, 0, 1, 1, 2, 0, 1, 2};
    int[] due = {1, 3, 5, 0, 4, 2, -1, -1, -1};
    for (int i = 0; i < kinds.length; i++) {
      int stay = x.book(kinds[i], 50, 2, 1);
      Check.is(due[i], stay < 0 ? -1 : x.ofStay(stay, 6), "8: of KIND " + kinds[i]);
    }
    make(2, 1, 0, 1, 0, 2);
    for (int room = 0; room < 6; room++) {
      put(room, 3, 50, 2);
    }
    x.cancel(4);
    x.cancel(2);
    put(2, 3, 50, 2);
    x.cancel(5);
    answers(7, "9: a HELD one, too", "hold", 3, 50, 2, 1, 9);
    asked(4, "9: the smallest that is left", "ofStay", 7, 6);
  }

  private static void hinders() {
    make(0);
    x.clean(1);
    put(0, 0, 30, 2);
    put(0, 0, 20, 2);
    x.close(0, 25, 26);
    put(0, 0, 10, 2);
    asked(2, "31: the smallest FIRST, not the smallest number", "hinders", 0, 10, 20);
    asked(1, "31: the one with the next FIRST", "hinders", 0, 13, 20);
    asked(-2, "31: a CLOSURE by its from", "hinders", 0, 23, 20);
    asked(0, "31: the last one", "hinders", 0, 27, 20);
    asked(2, "31: inside of its NIGHTS", "hinders", 0, 11, 1);
    asked(2, "31: by its last NIGHT of cleaning", "hinders", 0, 12, 1);
    asked(-1, "31: just behind that", "hinders", 0, 13, 1);
    asked(2, "31: by the cleaning of the one that would be", "hinders", 0, 9, 1);
    asked(-1, "31: just ahead of that", "hinders", 0, 8, 1);
    asked(1, "31: a STAY ahead of a CLOSURE", "hinders", 0, 22, 3);
    asked(-2, "31: a CLOSURE ahead of a STAY", "hinders", 0, 26, 4);
  }

  // ---- GROUP

  private static void groupSideBySide() {
    make(0, 0, 0, 0, 0, 0);
    x.close(1, 50, 50);
    x.close(4, 50, 50);
    answers(-1, "11: three are not side by side", "group", 0, 50, 1, 3, 1);
    answers(-1, "11: four are not", "group", 0, 50, 1, 4, 1);
    answers(0, "11: two are", "group", 0, 50, 1, 2, 1);
    rooms("11: the third and the fourth ROOM", 2, 3);
    answers(-1, "11: the first and the last are not", "group", 0, 50, 1, 2, 1);
    answers(2, "11: in another NIGHT four are", "group", 0, 51, 1, 4, 1);
    asked(0, "11: the smallest numbers", "ofStay", 2, 6);
    answers(6, "11: the last two are left", "group", 0, 51, 1, 2, 1);
    rooms("11: the last two are left", 2, 3, 0, 1, 2, 3, 4, 5);
    answers(-1, "11: none is left", "group", 0, 51, 1, 2, 1);
  }

  private static void groupOfTheKind() {
    make(1, 0, 0, 1, 1, 1);
    answers(0, "11: of KIND 1", "group", 1, 50, 1, 2, 1);
    rooms("11: not over the others", 3, 4);
    answers(2, "11: of KIND 0", "group", 0, 50, 1, 2, 1);
    answers(-1, "11: the first and the last one of KIND 1", "group", 1, 50, 1, 2, 1);
    answers(-1, "11: of any KIND neither", "group", 3, 50, 1, 2, 1);
    answers(4, "11: four of any KIND", "group", 3, 60, 1, 4, 1);
    asked(0, "11: from the first ROOM on", "ofStay", 4, 6);
    asked(3, "11: their KIND is any", "ofStay", 7, 0);
    answers(-1, "11: three of KIND 1, one is taken", "group", 1, 60, 1, 3, 1);
  }

  private static void groupInOrder() {
    for (int many = 2; many <= 4; many++) {
      make(1, 0, 0, 0, 0);
      answers(0, "11: the number of the first one", "group", 0, 50, 3, many, 9);
      for (int i = 0; i < many; i++) {
        asked(1 + i, "11: the smallest number gets the smallest ROOM, and so on", "ofStay", i, 6);
        asked(50, "11: the same NIGHTS", "ofStay", i, 1);
        asked(52, "11: the same NIGHTS", "ofStay", i, 3);
        asked(9, "11: WORTH of each", "ofStay", i, 4);
        asked(1, "11: all PAID", "ofStay", i, 5);
      }
      asked(many, "11: so many", "house", 1);
      asked(6, "11: TOLD once, behind five ROOMS", "house", 9);
    }
  }

  // ---- DEALING

  /** All BOOKED STAYS, by rising FIRST. */
  private static void dealingByFirst() {
    make(0, 1, 2);
    put(0, 0, 12, 3);
    put(1, 1, 11, 3);
    put(2, 2, 10, 3);
    dealt("33: the earliest one gets the first ROOM", 2, 1, 0);
    asked(3, "32: three ROOMS", "dealing", 0);
    x.shorten(2, 1);
    dealt("33: the first ROOM is left just in time", 0, 1, 0);
    asked(2, "32: two ROOMS", "dealing", 0);
  }

  private static void dealingInTheFirstNight() {
    make(2, 1, 0);
    put(0, 2, 0, 1);
    dealt("33: the first NIGHT, the first ROOM", 0);
    put(1, 1, 0, 2);
    put(0, 2, 1, 1);
    dealt("33: the first NIGHT, two ROOMS", 0, 1, 0);
    asked(2, "32: the first NIGHT, two ROOMS", "dealing", 0);
    asked(2, "32: the first NIGHT", "dealing", 1);
    asked(0, "32: the first NIGHT", "dealing", 2);
  }

  /** Of the same FIRST by rising number. */
  private static void dealingByNumber() {
    make(0, 1, 2);
    put(2, 2, 10, 1);
    put(1, 1, 10, 5);
    put(0, 0, 10, 3);
    dealt("33: of the same FIRST by rising number", 0, 1, 2);
    x.cancel(0);
    dealt("33: one less", -1, 0, 1);
    put(2, 2, 10, 1);
    dealt("33: the new one has the greatest number", -1, 0, 1, 2);
    make(0, 1);
    put(0, 0, 10, 1);
    x.queue(0, 10, 2, 1);
    put(1, 1, 10, 1);
    dealt("33: who waits is not dealt", 0, -1, 1);
    x.room(0);
    dealt("33: who waited is dealt by its number", 0, 1, 2);
  }

  /** Each the lowest ROOM in which none that was dealt there MEETS it. */
  private static void dealingToTheLowest() {
    make(0, 1, 2);
    x.clean(1);
    put(0, 0, 10, 2);
    put(1, 1, 10, 1);
    put(2, 2, 12, 2);
    dealt("33: by cleaning the first ROOM is not ready, the second one is", 0, 1, 1);
    put(0, 0, 13, 1);
    dealt("33: the first ROOM is ready", 0, 1, 1, 0);
    put(1, 1, 14, 1);
    dealt("33: both are not", 0, 1, 1, 0, 2);
    put(1, 1, 16, 1);
    dealt("33: of all three the lowest", 0, 1, 1, 0, 2, 0);
  }

  /** DEALING is done only in thought: KINDS and CLOSURES do not matter. */
  private static void dealingInThought() {
    make(0, 1, 2);
    x.close(0, 10, 12);
    put(2, 2, 10, 3);
    put(1, 1, 13, 3);
    dealt("33: both in the first ROOM, whatever KIND, whatever is CLOSED", 0, 0);
    asked(1, "32: one ROOM would do", "dealing", 0);
    rooms("33: only in thought", 2, 1);
    answers(0, "17: redeal() minds both", "redeal");
    rooms("17: redeal() minds both", 2, 1);
  }

  /** As many as it needs. */
  private static void dealingNeeds() {
    make();
    asked(0, "32: no ROOM at all", "dealing", 0);
    make(0, 0, 0, 0, 0, 0);
    asked(0, "32: none is BOOKED", "dealing", 0);
    for (int many = 1; many <= 6; many++) {
      x.book(0, 50 + many, 20, 1);
      asked(many, "32: as many as it needs", "dealing", 0);
      asked(many, "32: as many TAKE one NIGHT", "dealing", 1);
      asked(50 + many, "32: the first such NIGHT", "dealing", 2);
    }
  }

  private static void mostInOneNight() {
    make(0, 0, 0);
    x.clean(1);
    put(0, 0, 50, 1);
    put(0, 0, 20, 1);
    asked(1, "32: one", "dealing", 1);
    asked(20, "32: the first such NIGHT, not that of the smallest number", "dealing", 2);
    put(1, 0, 51, 1);
    asked(2, "32: two, one of them is cleaned behind", "dealing", 1);
    asked(51, "32: the first such NIGHT", "dealing", 2);
    put(1, 0, 20, 1);
    asked(20, "32: the first such NIGHT of two", "dealing", 2);
    put(2, 0, 51, 1);
    asked(3, "32: three", "dealing", 1);
    asked(51, "32: the first such NIGHT", "dealing", 2);
    asked(3, "28: three TAKE it", "busy", 51);
  }

  // ---- redeal()

  private static void redealByKind() {
    make(0, 1, 0, 1);
    put(0, 0, 10, 3);
    put(2, 0, 12, 3);
    put(1, 1, 10, 3);
    put(3, 1, 11, 3);
    put(0, 3, 20, 1);
    x.cancel(0);
    x.cancel(2);
    x.move(4, 3);
    answers(3, "17: how many are in another ROOM", "redeal");
    rooms("17: each the smallest ROOM of its KIND", -1, 0, -1, 1, 0);
    answers(0, "17: all are there already", "redeal");
  }

  private static void redealOrder() {
    make(0, 0);
    put(0, 0, 12, 1);
    put(0, 0, 10, 2);
    x.move(0, 1);
    put(0, 0, 12, 1);
    answers(2, "17: of the same FIRST by rising number", "redeal");
    rooms("17: of the same FIRST by rising number", 0, 0, 1);
    make(0, 0, 0);
    put(0, 0, 12, 3);
    put(1, 0, 11, 3);
    put(2, 0, 10, 3);
    answers(2, "17: by rising FIRST; the one in the middle stays", "redeal");
    rooms("17: by rising FIRST", 2, 1, 0);
    make(0, 0);
    x.clean(2);
    put(0, 0, 13, 1);
    put(1, 0, 11, 1);
    answers(2, "17: they MEET by cleaning alone", "redeal");
    rooms("17: they MEET by cleaning alone", 1, 0);
    asked("...........1::......", "17: the text", "text", 0, 0);
    asked(".............0::....", "17: the text", "text", 1, 0);
  }

  private static void redealAroundClosures() {
    make(0, 0, 0);
    x.clean(1);
    x.close(0, 12, 12);
    x.close(1, 9, 9);
    put(0, 0, 10, 1);
    put(1, 0, 10, 2);
    put(2, 0, 9, 3);
    x.cancel(0);
    answers(0, "17: a CLOSURE by its cleaning, a CLOSURE by its FIRST", "redeal");
    rooms("17: all stay", -1, 1, 2);
    x.open(1, 9);
    answers(2, "17: the CLOSURE is gone", "redeal");
    rooms("17: the second ROOM is open, then the third is left", -1, 2, 1);
  }

  private static void redealAroundTheFirstNight() {
    make(0, 0);
    x.clean(1);
    x.close(0, 0, 0);
    put(1, 0, 0, 1);
    answers(0, "17: the first NIGHT of the first ROOM is CLOSED", "redeal");
    x.open(0, 0);
    x.close(0, 1, 1);
    answers(0, "17: its cleaning MEETS the CLOSURE", "redeal");
    x.open(0, 1);
    x.close(0, 2, 2);
    answers(1, "17: its cleaning is just ahead of the CLOSURE", "redeal");
    asked("0:#.................", "17: the text", "text", 0, 0);
    asked("....................", "17: the text", "text", 1, 0);
  }

  private static void redealChangesNothing() {
    make(0, 1);
    put(0, 0, 30, 1);
    x.move(0, 0);
    put(0, 3, 20, 1);
    x.move(1, 1);
    put(0, 0, 11, 2);
    put(1, 3, 10, 2);
    String before = Snapshot.besidesTold(x.snapshot());
    answers(-1, "17: one finds none: nothing changes, also for those that would", "redeal");
    Check.is(before, Snapshot.besidesTold(x.snapshot()), "17: nothing changes");
    x.shorten(3, 1);
    answers(2, "17: each finds one", "redeal");
    rooms("17: each finds one", 0, 0, 0, 0);
  }

  // ---- FEWEST MOVES

  private static void movesNone() {
    make(0, 1);
    asked(0, "34: 0, a ROOM of its KIND is FREE", "moves", 0, 10, 3);
    put(0, 0, 13, 1);
    asked(0, "34: 0, just ahead of another one", "moves", 0, 10, 3);
    asked(-1, "34: NONE, that one has no other ROOM of its KIND", "moves", 0, 11, 3);
    asked(0, "34: 0, another KIND", "moves", 1, 11, 3);
    asked(0, "34: 0, any KIND", "moves", 3, 11, 3);
    asked(-1, "34: NONE, no ROOM of its KIND", "moves", 2, 10, 3);
  }

  private static void movesOfOne() {
    make(0, 0);
    put(0, 0, 10, 2);
    put(1, 0, 11, 2);
    asked(-1, "34: NONE, both are in the way of each other", "moves", 0, 11, 1);
    x.cancel(1);
    put(0, 0, 12, 2);
    x.move(2, 1);
    asked(1, "34: 1, just behind the other one", "moves", 0, 11, 2);
    x.lengthen(0, 1);
    asked(-1, "34: NONE, they MEET by one NIGHT", "moves", 0, 11, 2);
    asked(0, "34: 0, where only one of them is", "moves", 0, 11, 1);
  }

  private static void movesOfOneByKind() {
    make(0, 1, 2);
    put(0, 0, 10, 2);
    asked(-1, "34: NONE, the one in the way is of this KIND alone", "moves", 0, 10, 2);
    x.cancel(0);
    put(0, 3, 10, 2);
    asked(1, "34: 1, the one in the way is of any KIND", "moves", 0, 10, 2);
    put(1, 1, 11, 1);
    asked(1, "34: 1, to the third ROOM", "moves", 0, 10, 2);
    put(2, 2, 11, 1);
    asked(-1, "34: NONE, to no ROOM", "moves", 0, 10, 2);
    asked(-1, "34: NONE of any KIND", "moves", 3, 10, 2);
    x.cancel(2);
    asked(0, "34: 0 of any KIND", "moves", 3, 10, 2);
    asked(1, "34: 1 of this KIND", "moves", 0, 10, 2);
  }

  private static void movesOfOneByClosures() {
    make(0, 0);
    x.clean(1);
    put(0, 0, 10, 2);
    x.close(1, 13, 13);
    asked(0, "34: 0, in the other ROOM", "moves", 0, 10, 2);
    asked(1, "34: 1, its cleaning is just ahead of the CLOSURE there", "moves", 0, 12, 5);
    x.open(1, 13);
    x.close(1, 12, 13);
    asked(-1, "34: NONE, its cleaning MEETS the CLOSURE there", "moves", 0, 12, 5);
    x.open(1, 12);
    x.close(1, 9, 9);
    asked(1, "34: 1, its FIRST is just behind the CLOSURE there", "moves", 0, 8, 3);
    x.close(0, 8, 8);
    asked(-1, "34: NONE, a CLOSURE in each ROOM", "moves", 0, 7, 3);
    asked(1, "34: 1, ahead of the one, behind the other", "moves", 0, 9, 3);
  }

  private static void movesOfTwoHinderers() {
    make(0, 1);
    put(0, 3, 10, 2);
    put(0, 3, 14, 2);
    asked(0, "34: 0, between them", "moves", 0, 12, 2);
    asked(1, "34: 1, the first one", "moves", 0, 11, 3);
    asked(1, "34: 1, the second one", "moves", 0, 12, 3);
    asked(2, "34: 2, both", "moves", 0, 11, 4);
    put(1, 1, 9, 1);
    asked(2, "34: 2, both, one is just behind another one there", "moves", 0, 11, 4);
    x.lengthen(2, 1);
    asked(-1, "34: NONE, the first one cannot", "moves", 0, 11, 4);
    asked(1, "34: 1, the second one still can", "moves", 0, 12, 3);
    x.shorten(2, 1);
    x.close(1, 15, 15);
    asked(-1, "34: NONE, the second one cannot, by a CLOSURE", "moves", 0, 11, 4);
    asked(1, "34: 1, the first one still can", "moves", 0, 11, 3);
    make(0, 1, 2);
    put(0, 3, 10, 2);
    put(0, 3, 14, 2);
    x.close(1, 10, 10);
    x.close(2, 14, 14);
    asked(2, "34: 2, each into another ROOM", "moves", 0, 11, 4);
    x.close(1, 15, 15);
    asked(-1, "34: NONE, the second one into none", "moves", 0, 11, 4);
  }

  private static void movesOfThreeHinderers() {
    make(0, 1);
    put(0, 3, 10, 2);
    put(0, 3, 12, 2);
    put(0, 3, 14, 2);
    asked(2, "34: 2, the first two", "moves", 0, 10, 4);
    asked(2, "34: 2, the last two", "moves", 0, 12, 4);
    asked(-1, "34: NONE, three are in the way", "moves", 0, 11, 4);
    asked(1, "34: 1, the one in the middle", "moves", 0, 12, 2);
    x.close(0, 16, 16);
    asked(2, "34: 2, just ahead of the CLOSURE", "moves", 0, 12, 4);
    asked(-1, "34: NONE, a CLOSURE is in the way, too", "moves", 0, 12, 5);
    asked(-1, "34: NONE, one and a CLOSURE", "moves", 0, 14, 3);
    x.close(0, 9, 9);
    asked(-1, "34: NONE, a CLOSURE and one", "moves", 0, 9, 2);
  }

  /** One goes where another one was, and that to a third ROOM (both at once). */
  private static void movesOfTwoInAChain() {
    make(0, 1, 2);
    put(0, 3, 10, 4);
    put(1, 3, 12, 4);
    x.close(2, 10, 11);
    asked(2, "34: 2, one goes where another one was, that to the third ROOM", "moves", 0, 10, 4);
    x.close(2, 15, 15);
    asked(-1, "34: NONE, a CLOSURE is there, nor can they change", "moves", 0, 10, 4);
    x.open(2, 15);
    x.close(1, 11, 11);
    asked(-1, "34: NONE, a CLOSURE is where the other one was", "moves", 0, 10, 4);
    x.open(1, 11);
    put(1, 1, 10, 1);
    asked(-1, "34: NONE, two would have to go from there", "moves", 0, 10, 4);
    x.cancel(2);
    x.book(2, 16, 1, 1);
    asked(2, "34: 2, somebody is just behind them in the third ROOM", "moves", 0, 10, 4);
    x.cancel(3);
    x.book(2, 15, 1, 1);
    asked(-1, "34: NONE, somebody is in the third ROOM", "moves", 0, 10, 4);
    make(0, 1, 1);
    put(0, 3, 10, 4);
    put(1, 1, 12, 4);
    x.close(2, 10, 11);
    asked(2, "34: 2, the other one goes to another ROOM of its KIND", "moves", 0, 10, 4);
    make(0, 1, 2);
    put(0, 3, 10, 4);
    put(1, 1, 12, 4);
    x.close(2, 10, 11);
    asked(-1, "34: NONE, the other one has no other ROOM of its KIND", "moves", 0, 10, 4);
  }

  /** The STAY with the number 0 counts like any other one, wherever it stands. */
  private static void movesOfTheFirstNumber() {
    make(0, 1);
    put(0, 3, 12, 2);
    put(0, 3, 10, 2);
    put(0, 3, 8, 2);
    asked(2, "34: 2, it is the second one in the way", "moves", 0, 10, 4);
    asked(-1, "34: NONE, it is the third one in the way", "moves", 0, 8, 6);
    asked(1, "34: 1, it is the only one in the way", "moves", 0, 12, 1);
    x.close(1, 13, 13);
    asked(-1, "34: NONE, it is the second one in the way, and cannot go", "moves", 0, 10, 4);
    make(0, 1, 2);
    put(0, 3, 12, 2);
    x.move(0, 1);
    put(0, 3, 10, 4);
    x.close(2, 11, 11);
    asked(2, "34: 2, it is driven out", "moves", 0, 10, 1);
    x.book(1, 11, 1, 1);
    asked(-1, "34: NONE, two would be driven out, it is the second one", "moves", 0, 10, 1);
    x.cancel(2);
    x.close(1, 11, 11);
    asked(-1, "34: NONE, a CLOSURE cannot be driven out with it", "moves", 0, 10, 1);
    make(0, 1, 2);
    put(0, 3, 10, 2);
    x.move(0, 1);
    put(0, 3, 10, 4);
    x.close(2, 12, 12);
    asked(2, "34: 2, it is driven out", "moves", 0, 13, 1);
    x.book(1, 12, 1, 1);
    asked(-1, "34: NONE, two would be driven out, it is the first one", "moves", 0, 13, 1);
  }

  /** One goes where another one was, in the ROOM with the number 0. */
  private static void movesByTheFirstRoom() {
    make(1, 0, 2);
    put(0, 3, 10, 4);
    put(1, 3, 12, 4);
    x.close(2, 14, 14);
    asked(2, "34: 2, into the first ROOM, that one into the third", "moves", 0, 14, 2);
    x.close(2, 13, 13);
    asked(2, "34: 2, into the first ROOM, that one into the second", "moves", 0, 14, 2);
    asked(-1, "34: NONE, the second ROOM is not FREE for it", "moves", 0, 13, 2);
    make(1, 0, 2);
    put(0, 1, 10, 4);
    put(1, 3, 12, 4);
    x.close(2, 14, 14);
    asked(-1, "34: NONE, the one in the first ROOM is of its KIND alone", "moves", 0, 14, 2);
  }

  /** Two change ROOMS (both at once). */
  private static void movesOfTwoChanging() {
    make(0, 1);
    put(0, 3, 10, 4);
    put(1, 3, 13, 4);
    asked(2, "34: 2, they change, the other one comes just behind", "moves", 0, 10, 3);
    asked(-1, "34: NONE, the other one would be in the way", "moves", 0, 10, 4);
    asked(0, "34: 0, of the other KIND", "moves", 1, 10, 3);
    make(0, 1);
    put(0, 3, 13, 4);
    put(1, 3, 10, 4);
    asked(2, "34: 2, they change, the other one comes just ahead", "moves", 0, 14, 3);
    asked(-1, "34: NONE, the other one would be in the way", "moves", 0, 13, 4);
    make(0, 1);
    put(0, 3, 10, 4);
    put(1, 1, 13, 4);
    asked(-1, "34: NONE, the other one's KIND is not that of the ROOM", "moves", 0, 10, 3);
    make(0, 1);
    put(0, 0, 10, 4);
    put(1, 3, 13, 4);
    asked(-1, "34: NONE, the KIND of the ROOM there is not its own", "moves", 0, 10, 3);
    make(0, 0);
    put(0, 0, 10, 4);
    put(1, 0, 13, 4);
    put(0, 0, 16, 1);
    asked(0, "34: 0, ahead of the other one", "moves", 0, 10, 3);
    x.close(1, 9, 9);
    asked(-1, "34: NONE, a third one is where the other one would be", "moves", 0, 9, 4);
    x.cancel(2);
    asked(2, "34: 2, without it they change", "moves", 0, 9, 4);
  }

  private static void movesOfTwoChangingAndClosures() {
    make(0, 1);
    put(0, 3, 10, 4);
    put(1, 3, 13, 4);
    x.close(0, 17, 17);
    asked(2, "34: 2, just ahead of a CLOSURE here", "moves", 0, 10, 3);
    x.close(0, 16, 16);
    asked(-1, "34: NONE, a CLOSURE here is where the other one would be", "moves", 0, 10, 3);
    x.open(0, 16);
    x.close(1, 9, 9);
    asked(2, "34: 2, just behind a CLOSURE there", "moves", 0, 10, 3);
    x.close(1, 10, 10);
    asked(-1, "34: NONE, a CLOSURE there is where this one would be", "moves", 0, 10, 3);
  }

  /** The fewest, whatever ROOM that takes. */
  private static void movesTheFewest() {
    make(0, 0, 1);
    put(0, 3, 10, 1);
    put(0, 3, 12, 1);
    put(1, 3, 10, 3);
    asked(1, "34: 1, two in the first ROOM, but one in the second", "moves", 0, 10, 3);
    make(0, 0, 1);
    put(0, 3, 10, 3);
    put(1, 3, 10, 1);
    put(1, 3, 12, 1);
    asked(1, "34: 1, one in the first ROOM", "moves", 0, 10, 3);
    x.close(2, 11, 11);
    asked(2, "34: 2, one in the first ROOM, but it cannot go", "moves", 0, 10, 3);
    x.cancel(1);
    asked(1, "34: 1, one in the second ROOM", "moves", 0, 10, 3);
    x.cancel(2);
    asked(0, "34: 0, the second ROOM is FREE", "moves", 0, 10, 3);
    make(0, 0);
    put(0, 0, 10, 1);
    put(0, 0, 13, 1);
    put(0, 0, 11, 2);
    x.move(2, 1);
    asked(1, "34: 1, the long one goes between the two", "moves", 0, 10, 4);
    x.close(0, 12, 12);
    asked(-1, "34: NONE, a CLOSURE is between the two", "moves", 0, 10, 4);
    make(0, 1);
    put(0, 3, 10, 1);
    put(0, 3, 13, 1);
    put(1, 1, 11, 2);
    asked(2, "34: 2, the two go around the long one", "moves", 0, 10, 4);
    x.lengthen(2, 1);
    asked(-1, "34: NONE, the long one MEETS one of the two", "moves", 0, 10, 4);
  }

  private static void movesWithCleaning() {
    make(0, 1);
    x.clean(2);
    put(0, 3, 10, 1);
    asked(1, "34: 1, by its cleaning", "moves", 0, 12, 1);
    asked(0, "34: 0, just behind its cleaning", "moves", 0, 13, 1);
    asked(1, "34: 1, by the cleaning of the one that would be", "moves", 0, 8, 1);
    asked(0, "34: 0, just ahead of it", "moves", 0, 7, 1);
    put(0, 3, 15, 1);
    asked(1, "34: 1, the first one alone", "moves", 0, 12, 1);
    asked(2, "34: 2, by both cleanings", "moves", 0, 12, 2);
    asked(1, "34: 1, the second one alone", "moves", 0, 13, 1);
    put(0, 3, 18, 1);
    asked(2, "34: 2, the third one is just behind", "moves", 0, 12, 4);
    asked(-1, "34: NONE, the third one is reached by the cleaning", "moves", 0, 12, 5);
    make(0, 1);
    x.clean(1);
    put(0, 3, 10, 2);
    put(1, 3, 12, 2);
    asked(2, "34: 2, they change ROOMS, with cleaning between", "moves", 0, 10, 1);
    asked(-1, "34: NONE, the cleaning of the one that would be MEETS the other", "moves", 0, 10, 2);
    make(0, 1);
    x.clean(1);
    put(0, 3, 12, 2);
    put(1, 3, 10, 2);
    asked(2, "34: 2, they change ROOMS, the cleaning of the other is over", "moves", 0, 13, 1);
    asked(-1, "34: NONE, the cleaning of the other MEETS it", "moves", 0, 12, 1);
  }

  private static void movesInLastNights() {
    make(0, 0);
    x.clean(2);
    put(0, 0, 99, 1);
    put(0, 0, 96, 1);
    x.move(1, 1);
    asked(0, "34: 0, just behind the cleaning", "moves", 0, 99, 1);
    asked(0, "34: 0, in the other ROOM", "moves", 0, 93, 1);
    asked(1, "34: 1, beyond 99", "moves", 0, 97, 3);
    x.lengthen(1, 1);
    asked(-1, "34: NONE, they MEET in the last NIGHT", "moves", 0, 97, 3);
    x.shorten(1, 1);
    x.close(1, 99, 99);
    asked(-1, "34: NONE, the last NIGHT is CLOSED", "moves", 0, 97, 3);
  }

  private static void movesInThought() {
    make(0, 1);
    put(0, 3, 10, 4);
    put(1, 3, 13, 4);
    String before = x.snapshot();
    asked(2, "34: 2", "moves", 0, 10, 3);
    Check.is(before, x.snapshot(), "34: nobody is put anywhere");
    answers(-1, "8: it would be, but is not", "book", 0, 10, 3, 1);
    rooms("34: nobody is put anywhere", 0, 1);
  }
}
