/** Promises 34 to 40: what would be, one room for those who wait, soundness and the checksum. */
public final class WouldPromisesTest {
  private static Used x;

  private WouldPromisesTest() {
  }

  public static void main(String[] args) {
    movesOfOne();
    movesWithCleaning();
    movesOutOfOneRoom();
    movesOfTwoWithCleaning();
    movesIntoWhichRoom();
    movesOfTheFirstStay();
    movesOneAfterTheOther();
    movesWithout();
    price();
    odds();
    oneRoom();
    fortyWait();
    chosenMost();
    chosenWorth();
    nothingChanges();
    isSound();
    digest();
    Check.end();
  }

  private static void make(int... kinds) {
    x = new Used();
    for (int kind : kinds) {
      x.room(kind);
    }
  }

  /** Books a stay that must come into that room. */
  private static int put(int room, int kind, int first, int length) {
    int stay = x.book(kind, first, length, 1);
    Check.is(room, x.ofStay(stay, 6), "34: it is where the test wants it");
    return stay;
  }

  private static void movesOfOne() {
    make(0, 0);
    Check.is(0, x.moves(0, 0, 5), "34: a ROOM is FREE");
    put(0, 0, 0, 2);
    put(0, 0, 4, 2);
    x.move(1, 1);
    Check.is(0, x.moves(0, 2, 2), "34: between them");
    Check.is(1, x.moves(0, 1, 5), "34: one goes to the other ROOM");
    Check.is(1, x.moves(3, 1, 5), "34: any KIND");
    Check.is(-1, x.moves(1, 1, 5), "34: no ROOM of its KIND");
    make(0, 1);
    put(0, 0, 0, 2);
    Check.is(-1, x.moves(0, 0, 1), "34: not to a ROOM of another KIND");
    x.cancel(0);
    put(0, 3, 0, 2);
    Check.is(1, x.moves(0, 0, 1), "34: one of any KIND goes there");
  }

  private static void movesWithCleaning() {
    make(0, 0);
    x.clean(2);
    put(0, 0, 0, 2);
    put(0, 0, 4, 2);
    x.move(1, 1);
    Check.is(1, x.moves(0, 1, 5), "34: one just behind the cleaning of the other one");
    x.close(0, 8, 8);
    Check.is(1, x.moves(0, 1, 5), "34: its own cleaning is just ahead of the CLOSURE");
    Check.is(1, x.moves(0, 1, 6), "34: then the second ROOM is made FREE");
    x.close(1, 8, 8);
    Check.is(1, x.moves(0, 1, 5), "34: still just ahead");
    Check.is(-1, x.moves(0, 1, 6), "34: CLOSURES do not go");
  }

  private static void movesOutOfOneRoom() {
    make(0, 1);
    put(0, 3, 0, 1);
    put(0, 3, 2, 1);
    put(0, 3, 4, 1);
    Check.is(0, x.moves(0, 1, 1), "34: none hinders");
    Check.is(1, x.moves(0, 0, 2), "34: one hinders");
    Check.is(2, x.moves(0, 0, 3), "34: two hinder");
    Check.is(2, x.moves(0, 1, 5), "34: two others");
    Check.is(-1, x.moves(0, 0, 5), "34: three are too many");
    x.close(0, 5, 5);
    Check.is(-1, x.moves(0, 1, 5), "34: a CLOSURE behind them");
    x.close(1, 2, 2);
    Check.is(-1, x.moves(0, 0, 3), "34: one of both has no ROOM");
    Check.is(1, x.moves(0, 0, 2), "34: the other one has");
    make(0, 0, 1);
    put(0, 3, 0, 2);
    put(0, 3, 4, 2);
    put(1, 0, 0, 9);
    Check.is(2, x.moves(0, 1, 4), "34: both out of the first ROOM");
  }

  /** Each of the stays takes one night more than it has, and so does that which would be. */
  private static void movesOfTwoWithCleaning() {
    make(0, 1);
    x.clean(1);
    put(0, 3, 10, 1);
    put(0, 3, 2, 1);
    Check.is(2, x.moves(0, 3, 7), "34: the first one by its cleaning, the other one by its FIRST");
    Check.is(2, x.moves(0, 3, 8), "34: also over it");
    Check.is(1, x.moves(0, 3, 6), "34: only the first one");
    x.close(1, 11, 11);
    Check.is(-1, x.moves(0, 3, 7), "34: its cleaning MEETS a CLOSURE there");
    make(0, 1, 2);
    x.clean(1);
    put(0, 3, 3, 1);
    put(1, 3, 4, 1);
    x.close(2, 4, 4);
    Check.is(2, x.moves(0, 2, 1), "34: one drives the other one out by its cleaning");
    x.close(2, 5, 5);
    Check.is(2, x.moves(0, 2, 1), "34: and they change ROOMS");
    Check.is(-1, x.moves(0, 3, 1), "34: the cleaning of the one that comes MEETS it");
    Check.is(-1, x.moves(0, 4, 1), "34: its FIRST does");
  }

  private static void movesIntoWhichRoom() {
    make(1, 0, 2);
    put(0, 3, 3, 2);
    put(1, 3, 4, 2);
    x.close(2, 5, 5);
    Check.is(2, x.moves(0, 5, 1), "34: into the first ROOM of all");
    make(0, 1, 2);
    put(0, 0, 3, 1);
    put(1, 3, 3, 1);
    Check.is(-1, x.moves(0, 3, 1), "34: nobody goes to a ROOM of another KIND");
    make(0, 1);
    x.clean(1);
    put(0, 3, 2, 1);
    put(1, 3, 1, 1);
    Check.is(2, x.moves(0, 3, 1), "34: they change ROOMS, the other one is ahead");
    Check.is(-1, x.moves(0, 2, 1), "34: the other one's cleaning MEETS it");
    make(0, 1);
    put(0, 3, 4, 1);
    put(0, 3, 0, 1);
    put(0, 3, 2, 1);
    Check.is(-1, x.moves(0, 0, 5), "34: three, the first STAY of all behind");
    Check.is(2, x.moves(0, 0, 4), "34: without it two");
  }

  private static void movesOfTheFirstStay() {
    make(0, 1, 2);
    put(0, 3, 3, 1);
    x.move(0, 1);
    put(0, 3, 3, 1);
    x.close(2, 4, 4);
    Check.is(1, x.moves(0, 3, 1), "34: to the third ROOM");
    x.lengthen(1, 1);
    Check.is(2, x.moves(0, 3, 1), "34: the first STAY of all is driven out");
    make(0, 1);
    put(0, 3, 5, 1);
    put(0, 3, 3, 1);
    Check.is(2, x.moves(0, 3, 3), "34: the first STAY of all is the second one in its ROOM");
    put(0, 3, 7, 1);
    Check.is(-1, x.moves(0, 3, 5), "34: three");
    make(1, 0, 0);
    x.close(0, 3, 3);
    put(1, 3, 3, 1);
    put(2, 0, 3, 1);
    Check.is(-1, x.moves(0, 3, 1), "34: they may not go to another KIND or a CLOSED ROOM");
    x.open(0, 3);
    Check.is(0, x.ofRoom(0, 1), "34: the first ROOM is empty");
    Check.is(1, x.moves(0, 3, 1), "34: then the one of any KIND goes");
  }

  private static void movesOneAfterTheOther() {
    make(0, 1, 2);
    put(0, 3, 3, 2);
    put(1, 3, 4, 2);
    Check.is(1, x.moves(0, 3, 1), "34: to the third ROOM");
    x.close(2, 3, 3);
    Check.is(2, x.moves(0, 3, 1), "34: one goes where another one was, that to the third ROOM");
    x.close(2, 5, 5);
    Check.is(2, x.moves(0, 3, 1), "34: two change ROOMS");
    Check.is(-1, x.moves(0, 3, 2), "34: not if it MEETS the one that comes");
    Check.is(-1, x.moves(0, 4, 1), "34: nor here");
    x.book(0, 5, 1, 1);
    Check.is(-1, x.moves(0, 3, 1), "34: nor if another one is there");
    make(0, 1);
    put(0, 3, 3, 2);
    put(1, 1, 4, 2);
    Check.is(-1, x.moves(0, 3, 1), "34: the other one's KIND is not that of the ROOM");
    make(0, 1, 2);
    put(0, 3, 3, 3);
    put(1, 1, 3, 1);
    put(1, 3, 5, 1);
    x.close(2, 4, 4);
    Check.is(-1, x.moves(0, 4, 1), "34: two would have to make place");
    x.cancel(1);
    Check.is(2, x.moves(0, 4, 1), "34: now only one");
    x.close(1, 3, 3);
    Check.is(-1, x.moves(0, 4, 1), "34: a CLOSURE makes none");
  }

  private static void movesWithout() {
    make();
    Check.is(-1, x.moves(3, 0, 1), "34: no ROOM at all");
    make(0, 0, 0, 0);
    for (int i = 0; i < 3; i++) {
      x.book(0, 2 * i, 1, 1);
    }
    x.group(0, 0, 5, 3, 1);
    Check.is(-1, x.moves(0, 0, 5), "34: three are too many");
    Check.is(4, x.house(0), "34: nothing is changed");
    int[][] wrong = {{-1, 0, 1}, {4, 0, 1}, {0, -1, 1}, {0, 100, 1}, {0, 0, 0}, {0, 0, 21},
        {0, 99, 2}, {0, 81, 20}, {0, Integer.MAX_VALUE, Integer.MAX_VALUE}};
    for (int[] w : wrong) {
      String told = java.util.Arrays.toString(w);
      Check.argument(() -> x.moves(w[0], w[1], w[2]), "34: " + told);
      Check.argument(() -> x.price(w[0], w[1], w[2]), "35: " + told);
    }
    Check.argument(() -> x.price(3, 0, 1), "35: any KIND has no BASE");
  }

  private static void price() {
    make(0, 0, 0, 1);
    Check.is(500, x.price(0, 0, 5), "35: empty");
    x.clean(1);
    x.book(0, 1, 1, 1);
    x.hold(0, 2, 1, 1, 1);
    x.close(2, 0, 9);
    x.queue(0, 0, 9, 1);
    x.base(0, 7);
    Check.is(7, x.price(0, 0, 1), "35: CLOSURES aside");
    Check.is(9, x.price(0, 1, 1), "35: FULL of 33: 7 * 133 / 100");
    Check.is(11, x.price(0, 2, 1), "35: FULL of 66, one for cleaning: 7 * 166 / 100");
    Check.is(7 + 9 + 11 + 9 + 7, x.price(0, 0, 5), "35: each NIGHT by itself");
    Check.is(100, x.price(1, 2, 1), "35: another KIND");
    Check.is(2000, x.price(2, 80, 20), "35: no ROOM of it");
    x.base(1, 500);
    x.book(1, 99, 1, 1);
    Check.is(1000, x.price(1, 99, 1), "35: FULL");
    x.base(0, 0);
    Check.is(0, x.price(0, 0, 20), "35: for nothing");
  }

  private static void odds() {
    make();
    Check.is(0, x.odds(0, 0, 5), "36: nobody");
    Check.is(0, x.odds(0, 3, 0), "36: nobody comes");
    Check.is(1000 - 5 * 5 * 5, x.odds(0, 3, 5), "36: one at least, without ROOMS");
    Check.is(100000000, x.odds(99, 8, 10), "36: all come");
    make(0, 0);
    x.clean(1);
    x.book(0, 5, 2, 1);
    x.hold(0, 5, 1, 1, 1);
    x.queue(0, 5, 2, 1);
    Check.is(0, x.odds(5, 0, 10), "36: as many as ROOMS");
    Check.is(27, x.odds(5, 1, 3), "36: three of three");
    Check.is(4 * 27 * 7 + 81, x.odds(5, 2, 3), "36: three or four of four");
    Check.is(27, x.odds(6, 2, 3), "36: the one in its cleaning is none");
    Check.is(0, x.odds(7, 2, 3), "36: nor the other one");
    Check.is(-1, x.odds(5, 7, 3), "36: nine");
    Check.is(-1, x.odds(6, 8, 0), "36: nine");
    Check.is(100000000, x.odds(5, 6, 10), "36: eight");
    Check.argument(() -> x.odds(-1, 0, 0), "36: night -1");
    Check.argument(() -> x.odds(100, 0, 0), "36: night 100");
    Check.argument(() -> x.odds(0, -1, 0), "36: more -1");
    Check.argument(() -> x.odds(0, 9, 0), "36: more 9");
    Check.argument(() -> x.odds(0, 0, -1), "36: chance -1");
    Check.argument(() -> x.odds(0, 0, 11), "36: chance 11");
  }

  private static void one(int most, int worth, String what) {
    Check.is(most, x.oneRoom(0), "37: MOST: " + what);
    Check.is(most, x.oneRoom(1), "37: STABS: " + what);
    Check.is(worth, x.oneRoom(2), "37: BEST WORTH: " + what);
    Check.is(worth, x.oneRoom(3), "37: LEAST SUM: " + what);
  }

  private static void oneRoom() {
    make();
    one(0, 0, "nobody");
    x.queue(0, 0, 10, 50);
    one(1, 50, "one");
    x.queue(1, 0, 5, 20);
    x.queue(2, 5, 5, 20);
    one(2, 50, "the long one is worth more");
    x.queue(3, 8, 4, 31);
    one(2, 51, "whatever their KINDS");
    x.queue(0, 12, 1, 5);
    one(3, 56, "one behind");
    x.clean(1);
    one(2, 55, "the cleaning MEETS, too");
    x.clean(2);
    x.queue(0, 99, 1, 500);
    one(3, 555, "the last NIGHT");
    x.cancel(0);
    one(3, 551, "one is GONE");
    x.room(1);
    one(3, 525, "two have a ROOM now");
    Check.argument(() -> x.oneRoom(-1), "37: what -1");
    Check.argument(() -> x.oneRoom(4), "37: what 4");
  }

  private static void fortyWait() {
    make();
    StringBuilder all = new StringBuilder();
    for (int i = 0; i < 40; i++) {
      x.queue(0, 2 * i, 2, 1 + i);
      all.append(i == 0 ? "" : "-").append(i);
    }
    one(40, 820, "forty");
    Check.is(all.toString(), x.chosen(false), "38: all forty");
    Check.is(all.toString(), x.chosen(true), "38: all forty");
    Check.is(true, x.isSound(), "39: forty wait");
    x.clean(2);
    one(20, 420, "every other one");
    x.clean(0);
    make();
    for (int i = 0; i < 40; i++) {
      x.queue(0, 0, 20, 500);
    }
    one(1, 500, "forty that MEET");
    Check.is("0", x.chosen(true), "38: the first one of forty");
    Check.is("0", x.chosen(false), "38: the first one of forty");
  }

  private static void chosenMost() {
    make();
    x.queue(0, 10, 3, 1);
    x.queue(0, 12, 1, 1);
    x.queue(0, 0, 10, 1);
    x.queue(0, 13, 9, 1);
    x.queue(0, 13, 2, 1);
    Check.is("2-0-4", x.chosen(false), "38: the smallest LAST, of several the smallest number");
    x.cancel(0);
    Check.is("2-1-4", x.chosen(false), "38: the next one");
    x.clean(1);
    Check.is("2-1", x.chosen(false), "38: with the cleaning");
    x.cancel(1);
    x.cancel(2);
    x.cancel(3);
    Check.is("4", x.chosen(false), "38: one alone");
    x.cancel(4);
    Check.is("", x.chosen(false), "38: nobody");
  }

  private static void chosenWorth() {
    make();
    Check.is("", x.chosen(true), "38: nobody");
    x.queue(0, 5, 3, 7);
    x.queue(0, 5, 3, 7);
    Check.is("0", x.chosen(true), "38: the later one gives no more");
    x.queue(0, 0, 5, 2);
    x.queue(0, 0, 8, 9);
    Check.is("2-0", x.chosen(true), "38: two come to as much as one behind them");
    x.queue(0, 8, 2, 1);
    Check.is("2-0-4", x.chosen(true), "38: by rising FIRST");
    x.queue(0, 7, 3, 2);
    Check.is("2-0-4", x.chosen(true), "38: not worth it");
    x.queue(0, 6, 5, 20);
    Check.is("2-6", x.chosen(true), "38: worth more than two");
    x.clean(1);
    Check.is("2-6", x.chosen(true), "38: with the cleaning, just behind");
    x.cancel(2);
    x.cancel(6);
    Check.is("3", x.chosen(true), "38: one of greater worth");
    Check.is("0", x.chosen(false), "38: another one for MOST");
  }

  /** What asks changes nothing that can be asked, but for the -9. */
  private static void nothingChanges() {
    make(0, 0, 1);
    x.clean(1);
    x.book(0, 0, 3, 9);
    x.book(3, 9, 3, 9);
    x.book(0, 9, 3, 9);
    x.queue(0, 9, 3, 9);
    x.close(1, 20, 30);
    long before = x.digest();
    x.free(3, 8, 5, true);
    x.moves(3, 8, 5);
    x.moves(0, 9, 1);
    x.dealing(2);
    x.dealt(1);
    x.odds(9, 2, 5);
    x.price(0, 5, 9);
    x.oneRoom(2);
    x.chosen(true);
    x.hinders(0, 0, 9);
    x.isSound();
    Check.is(before, x.digest(), "30 to 40: what asks changes nothing");
    x.knock();
    Check.is(false, before == x.digest(), "40: a knock is part of it");
  }

  private static void isSound() {
    make();
    Check.is(true, x.isSound(), "39: empty");
    make(0, 1, 2, 0);
    x.clean(2);
    for (int i = 0; i < 9; i++) {
      x.group(3, 11 * i, 5, 2, 10 + i);
      x.queue(i % 4, 7 * i, 1 + i, 3 * i + 1);
      Check.is(true, x.isSound(), "39: as it grows");
    }
    x.redeal();
    x.pass(9);
    x.move(0, 3);
    x.shorten(4, 2);
    Check.is(true, x.isSound(), "39: behind much");
    while (x.house(9) > 0) {
      x.undo();
      Check.is(true, x.isSound(), "39: all the way back");
    }
  }

  private static long byItsWords() {
    return Words.whole(Words.numbers(new Asker(x))).longValue();
  }

  private static void digest() {
    make();
    Check.is(byItsWords(), x.digest(), "40: of a new object");
    make(0, 1, 2, 0, 1, 2);
    x.clean(1);
    for (int i = 0; i < 12; i++) {
      x.hold(3, 3 * i, 5, 10 + i, 5 + i);
      x.queue(i % 4, 2 * i, 1 + i, 3 * i + 1);
      x.close(i % 6, 48, 52);
      Check.is(byItsWords(), x.digest(), "40: as it grows");
    }
    x.pass(9);
    x.blank();
    x.knock();
    Check.is(byItsWords(), x.digest(), "40: of a full one");
    Check.is(x.digest(), x.digest(), "40: asked twice");
  }
}
