import java.math.BigInteger;
import java.util.List;

/** Section 3 (prices, odds), section 4 (one room for those who wait), promises 35 to 38 and 40. */
public final class NumbersTest {
  private static Used x;

  private NumbersTest() {
  }

  public static void main(String[] args) {
    baseAtFirst();
    priceWithoutRooms();
    fullIsRoundedDown();
    fullByWhoTakes();
    fullOfItsKind();
    priceIsRoundedDown();
    priceOfSeveralNights();
    oddsOfNobody();
    oddsMoreThanRooms();
    oddsByChance();
    oddsOfWhom();
    oddsAboveEight();
    nobodyWaits();
    oneWaits();
    whateverTheirKinds();
    fitOneRoom();
    mostAndStabs();
    bestWorth();
    leastSum();
    inTheFirstNights();
    fortyWait();
    beyondTheLastNight();
    whoIsGoneOrBooked();
    chosenByLast();
    chosenBySmallestNumber();
    chosenByFirst();
    chosenWorthTies();
    chosenWorthBackward();
    chosenWorthWithCleaning();
    chosenOfNobody();
    digestOfNothing();
    digestOfFewStays();
    digestOfTenStays();
    digestWrapsAround();
    digestOfEachNumber();
    digestOfEachNight();
    Check.end();
  }

  private static void make(int... kinds) {
    x = new Used();
    for (int kind : kinds) {
      x.room(kind);
    }
  }

  private static void answers(Object due, String sentence, String name, int... a) {
    Sentence.answers(x, due, sentence, name, a);
  }

  private static void asked(Object due, String sentence, String name, int... a) {
    Sentence.asked(x, due, sentence, name, a);
  }

  // ---- 3. prices

  private static void baseAtFirst() {
    make(0, 1, 2);
    for (int kind = 0; kind <= 2; kind++) {
      asked(100, "35: BASE is 100 at first", "price", kind, 50, 1);
      answers(100, "6: that before", "base", kind, 0);
      asked(0, "35: BASE of 0", "price", kind, 0, 20);
      answers(0, "6: that before", "base", kind, 500);
      asked(500, "35: BASE of 500", "price", kind, 99, 1);
      x.base(kind, 10 + kind);
    }
    for (int kind = 0; kind <= 2; kind++) {
      asked(10 + kind, "35: each KIND has its own BASE", "price", kind, 50, 1);
    }
  }

  /** FULL is 0 without any ROOM of the KIND. */
  private static void priceWithoutRooms() {
    make();
    asked(2000, "35: no ROOM at all", "price", 2, 80, 20);
    make(0);
    x.book(3, 50, 1, 1);
    asked(100, "35: no ROOM of this KIND", "price", 1, 50, 1);
    asked(200, "35: the KIND of the ROOM is FULL", "price", 0, 50, 1);
    x.base(1, 7);
    asked(7, "35: BASE alone", "price", 1, 50, 1);
  }

  /** FULL: 100 times the ROOMS .. / how many, rounded down. */
  private static void fullIsRoundedDown() {
    int[][] due = {{100, 200}, {100, 150, 200}, {100, 133, 166, 200}, {100, 125, 150, 175, 200},
        {100, 120, 140, 160, 180, 200}, {100, 116, 133, 150, 166, 183, 200}};
    for (int rooms = 1; rooms <= 6; rooms++) {
      make();
      for (int room = 0; room < rooms; room++) {
        x.room(1);
      }
      for (int taken = 0; taken <= rooms; taken++) {
        asked(due[rooms - 1][taken], "35: " + taken + " of " + rooms, "price", 1, 50, 1);
        x.book(1, 50, 1, 1);
      }
    }
  }

  /** In which a BOOKED STAY TAKES that NIGHT. */
  private static void fullByWhoTakes() {
    make(0, 0);
    x.clean(2);
    x.hold(0, 50, 2, 1, 9);
    asked(100, "35: ahead of it", "price", 0, 49, 1);
    asked(150, "35: its FIRST", "price", 0, 50, 1);
    asked(150, "35: its LAST", "price", 0, 51, 1);
    asked(150, "35: its last NIGHT of cleaning", "price", 0, 53, 1);
    asked(100, "35: behind it", "price", 0, 54, 1);
    x.close(1, 50, 53);
    asked(150, "35: a CLOSURE is no STAY", "price", 0, 50, 1);
    x.queue(0, 50, 1, 1);
    asked(150, "35: one WAITING is not BOOKED", "price", 0, 50, 1);
    x.pay(0);
    asked(150, "35: PAID is BOOKED, too", "price", 0, 50, 1);
    x.cancel(1);
    x.cancel(0);
    asked(100, "35: GONE is not BOOKED", "price", 0, 50, 1);
  }

  /** The ROOMS of that KIND. */
  private static void fullOfItsKind() {
    make(0, 1, 0, 1, 1);
    x.book(3, 50, 1, 1);
    x.book(3, 50, 1, 1);
    asked(150, "35: one of two, by a STAY of any KIND", "price", 0, 50, 1);
    asked(133, "35: one of three", "price", 1, 50, 1);
    asked(100, "35: none of this KIND", "price", 2, 50, 1);
  }

  /** PRICE: BASE times (100 + FULL) / 100, rounded down. */
  private static void priceIsRoundedDown() {
    make(0, 0, 0);
    x.book(0, 50, 1, 1);
    int[] bases = {0, 1, 2, 3, 4, 75, 99, 101, 499, 500};
    int[] due = {0, 1, 2, 3, 5, 99, 131, 134, 663, 665};
    for (int i = 0; i < bases.length; i++) {
      x.base(0, bases[i]);
      asked(due[i], "35: BASE " + bases[i] + " and FULL 33", "price", 0, 50, 1);
    }
    x.group(0, 50, 1, 2, 1);
    asked(1000, "35: BASE 500 and FULL 100", "price", 0, 50, 1);
    x.base(0, 1);
    asked(2, "35: BASE 1 and FULL 100", "price", 0, 50, 1);
  }

  /** PRICES of these NIGHTS together, each rounded down by itself. */
  private static void priceOfSeveralNights() {
    make(0, 0, 0);
    x.base(0, 7);
    x.book(0, 50, 3, 1);
    x.book(0, 51, 1, 1);
    asked(9 + 11 + 9, "35: 9 (9.31), 11 (11.62) and 9 (9.31)", "price", 0, 50, 3);
    asked(7 + 9, "35: the NIGHT ahead of it, too", "price", 0, 49, 2);
    asked(9 + 7, "35: the NIGHT behind it, too", "price", 0, 52, 2);
    asked(18 * 7 + 9 + 11, "35: 20 NIGHTS up to one", "price", 0, 32, 20);
    asked(140, "35: 20 NIGHTS of none", "price", 0, 80, 20);
  }

  // ---- 3. odds

  private static void oddsOfNobody() {
    make();
    asked(0, "36: nobody, no ROOM: 0 are not more than 0", "odds", 50, 0, 10);
    asked(0, "36: nobody, whatever the chance", "odds", 50, 0, 0);
    make(0);
    asked(0, "36: nobody", "odds", 50, 0, 5);
    asked(0, "36: nobody comes", "odds", 50, 8, 0);
    asked(100000000, "36: all of eight come", "odds", 50, 8, 10);
  }

  /** So many have more guests that come than there are ROOMS. */
  private static void oddsMoreThanRooms() {
    make();
    int[] due = {1000, 1000, 1000, 0, 0, 0, 0};
    int[] half = {875, 500, 125, 0, 0, 0, 0};
    for (int rooms = 0; rooms <= 6; rooms++) {
      asked(due[rooms], "36: three come, ROOMS: " + rooms, "odds", 50, 3, 10);
      asked(half[rooms], "36: three may come, ROOMS: " + rooms, "odds", 50, 3, 5);
      if (rooms < 6) {
        x.room(rooms % 3);
      }
    }
    asked(100000000, "36: eight come into six ROOMS", "odds", 50, 8, 10);
    asked(10000000, "36: seven come into six ROOMS", "odds", 50, 7, 10);
    asked(0, "36: six come into six ROOMS", "odds", 50, 6, 10);
    asked(8 * 2187 * 7 + 6561, "36: seven or eight of eight", "odds", 50, 8, 3);
  }

  /** Each guest one of 10 signs, of which c are «comes». */
  private static void oddsByChance() {
    make();
    for (int c = 0; c <= 10; c++) {
      asked(c, "36: one guest, chance " + c, "odds", 50, 1, c);
      asked(100 - (10 - c) * (10 - c), "36: two guests, chance " + c, "odds", 50, 2, c);
    }
    make(0);
    for (int c = 0; c <= 10; c++) {
      asked(0, "36: one guest, one ROOM", "odds", 50, 1, c);
      asked(c * c, "36: both of two, chance " + c, "odds", 50, 2, c);
      asked(c * c * c + 3 * c * c * (10 - c), "36: two or three, chance " + c, "odds", 50, 3, c);
    }
  }

  /** How many BOOKED STAYS have that NIGHT from FIRST to LAST, and those more. */
  private static void oddsOfWhom() {
    make(0, 0);
    x.clean(2);
    x.book(0, 50, 2, 1);
    x.hold(0, 51, 1, 1, 9);
    x.queue(0, 50, 2, 1);
    x.close(1, 40, 45);
    asked(0, "36: 49: only one more", "odds", 49, 1, 10);
    asked(0, "36: 50: one and one", "odds", 50, 1, 10);
    asked(1000, "36: 51: a PAID one, a HELD one and one", "odds", 51, 1, 10);
    asked(0, "36: 52: both are cleaned for, one", "odds", 52, 1, 10);
    asked(0, "36: 52: both are cleaned for, two", "odds", 52, 2, 10);
    asked(1000, "36: 52: both are cleaned for, three", "odds", 52, 3, 10);
    asked(0, "36: 40: a CLOSURE is no guest", "odds", 40, 2, 10);
    x.cancel(0);
    asked(1, "29: who waited came", "house", 13);
    x.cancel(2);
    asked(0, "36: GONE ones do not come", "odds", 51, 1, 10);
    asked(1000, "36: one is left, and two", "odds", 51, 2, 10);
  }

  /** NONE, if n is above 8. */
  private static void oddsAboveEight() {
    make(0, 0, 0, 0, 0, 0);
    for (int booked = 0; booked <= 6; booked++) {
      for (int more = 0; more <= 8; more++) {
        int n = booked + more;
        int ways = 1;
        for (int guest = 0; guest < n && n <= 8; guest++) {
          ways *= 10;
        }
        asked(n > 8 ? -1 : n > 6 ? ways : 0, "36: n is " + n, "odds", 50, more, 10);
        asked(n > 8 ? -1 : 0, "36: n is " + n + ", none comes", "odds", 50, more, 0);
      }
      x.book(0, 50, 1, 1);
    }
  }

  // ---- 4. one room for those who wait

  private static void one(String sentence, int most, int worth) {
    asked(most, "37: MOST, " + sentence, "oneRoom", 0);
    asked(most, "37: STABS, " + sentence, "oneRoom", 1);
    asked(worth, "37: BEST WORTH, " + sentence, "oneRoom", 2);
    asked(worth, "37: LEAST SUM, " + sentence, "oneRoom", 3);
  }

  private static void nobodyWaits() {
    make();
    one("nobody waits, no ROOM", 0, 0);
    make(0);
    x.book(0, 50, 1, 9);
    x.close(0, 60, 60);
    one("nobody waits, one is BOOKED", 0, 0);
    x.queue(0, 50, 1, 9);
    x.cancel(1);
    one("nobody waits any more", 0, 0);
  }

  private static void oneWaits() {
    make();
    x.queue(0, 0, 1, 1);
    one("one waits, the first NIGHT", 1, 1);
    make();
    x.queue(0, 80, 20, 500);
    one("one waits, the last NIGHT", 1, 500);
    x.clean(2);
    one("one waits, beyond the last NIGHT", 1, 500);
  }

  private static void whateverTheirKinds() {
    make(0);
    x.book(0, 0, 20, 1);
    for (int kind = 0; kind <= 3; kind++) {
      x.queue(kind, 3 * kind, 3, 10 + kind);
      one("whatever their KINDS", kind + 1, new int[] {10, 21, 33, 46}[kind]);
    }
    x.close(0, 50, 60);
    x.queue(2, 50, 1, 100);
    one("whatever is CLOSED or BOOKED", 5, 146);
  }

  /** Some FIT ONE ROOM, if no two of them MEET. */
  private static void fitOneRoom() {
    make();
    x.queue(0, 10, 3, 5);
    x.queue(0, 13, 3, 6);
    one("side by side", 2, 11);
    x.clean(1);
    one("they MEET by cleaning", 1, 6);
    x.clean(0);
    x.lengthen(0, 1);
    one("they MEET by one NIGHT", 1, 6);
    x.shorten(0, 1);
    one("side by side again", 2, 11);
    x.clean(2);
    x.shorten(0, 1);
    one("they MEET by the second NIGHT of cleaning", 1, 6);
    x.shorten(0, 1);
    one("they do not MEET", 2, 11);
  }

  private static void mostAndStabs() {
    make();
    x.queue(0, 10, 11, 1);
    x.queue(0, 10, 2, 1);
    x.queue(0, 12, 2, 1);
    x.queue(0, 13, 3, 1);
    x.queue(0, 16, 5, 1);
    one("three do not MEET", 3, 3);
    x.queue(0, 14, 2, 1);
    one("four do not MEET", 4, 4);
    x.clean(1);
    one("two do not MEET", 2, 2);
    make();
    for (int i = 0; i < 20; i++) {
      x.queue(0, i, 20, 1 + i);
    }
    one("all MEET in one NIGHT", 1, 20);
    x.queue(0, 20, 1, 1);
    one("the first and the last one do not", 2, 20);
  }

  /** The greatest WORTH together of some that FIT ONE ROOM. */
  private static void bestWorth() {
    make();
    x.queue(0, 10, 10, 100);
    x.queue(0, 10, 5, 50);
    x.queue(0, 15, 5, 50);
    one("two come to as much as one", 2, 100);
    x.queue(0, 15, 5, 51);
    one("two come to more than one", 2, 101);
    x.queue(0, 10, 10, 102);
    one("one comes to more than two", 2, 102);
    make();
    for (int i = 0; i < 5; i++) {
      x.queue(0, 20 * i, 20, 500);
    }
    one("five of the greatest WORTH", 5, 2500);
  }

  /** The smallest sum of all PRICES: some NIGHTS must serve several of them. */
  private static void leastSum() {
    make();
    x.queue(0, 10, 2, 5);
    x.queue(0, 11, 2, 7);
    x.queue(0, 12, 2, 5);
    one("two aside come to more than the one between them", 2, 10);
    x.queue(0, 11, 1, 3);
    one("three beside each other", 2, 10);
    x.queue(0, 13, 1, 1);
    one("one behind", 2, 10);
    make();
    for (int i = 0; i < 30; i++) {
      x.queue(0, i, 2, 10);
    }
    one("a chain of thirty: every other one", 15, 150);
  }

  private static void inTheFirstNights() {
    make();
    x.queue(0, 0, 1, 5);
    x.queue(0, 0, 3, 7);
    x.queue(0, 0, 5, 8);
    one("all begin with the first NIGHT", 1, 8);
    x.queue(0, 1, 4, 4);
    one("one begins with the second NIGHT", 2, 9);
    x.queue(0, 3, 4, 4);
    one("one begins with the fourth NIGHT", 2, 11);
  }

  private static void fortyWait() {
    make();
    for (int i = 0; i < 40; i++) {
      x.queue(i % 4, 2 * i, 2, 1 + i);
    }
    one("forty, side by side", 40, 820);
    x.clean(1);
    one("every other one of forty", 20, 420);
    x.cancel(39);
    x.queue(0, 0, 20, 500);
    one("the last one of forty is worth more than those that it MEETS", 20, 500 + 364);
    make();
    for (int i = 0; i < 40; i++) {
      x.queue(0, 50, 20, 461 + i);
    }
    one("forty with the same NIGHTS", 1, 500);
    asked("0", "38: the first one of forty", "chosen", 0);
    asked("39", "38: the last one of forty", "chosen", 1);
  }

  /** NIGHTS beyond 99. */
  private static void beyondTheLastNight() {
    make();
    x.clean(2);
    x.queue(0, 97, 1, 10);
    x.queue(0, 98, 1, 20);
    x.queue(0, 99, 1, 40);
    one("all three MEET in the last NIGHT", 1, 40);
    asked("0", "38: the smallest LAST", "chosen", 0);
    asked("2", "38: the greatest WORTH", "chosen", 1);
    x.queue(0, 96, 1, 15);
    one("one is just ahead of the last one", 2, 55);
    asked("3-2", "38: the first and the last one", "chosen", 0);
    asked("3-2", "38: the first and the last one", "chosen", 1);
    x.clean(0);
    one("all four without cleaning", 4, 85);
    asked("3-0-1-2", "38: all four", "chosen", 1);
  }

  private static void whoIsGoneOrBooked() {
    make(0);
    x.book(0, 50, 10, 1);
    x.queue(0, 50, 5, 9);
    x.queue(0, 55, 5, 8);
    x.queue(0, 52, 5, 30);
    one("three wait", 2, 30);
    x.cancel(3);
    one("two wait", 2, 17);
    x.shorten(0, 5);
    one("one has a ROOM by now", 1, 9);
    asked("1", "38: the other one", "chosen", 0);
    x.cancel(0);
    one("both have", 0, 0);
    asked("", "38: nobody", "chosen", 0);
    x.undo();
    one("one of them waits again", 1, 9);
  }

  // ---- promise 38

  /** Always the one with the smallest LAST of those that MEET none that was chosen. */
  private static void chosenByLast() {
    make();
    x.queue(0, 10, 10, 500);
    x.queue(0, 12, 4, 1);
    x.queue(0, 15, 1, 1);
    asked("1", "38: of the same LAST the smallest number", "chosen", 0);
    x.queue(0, 14, 1, 1);
    asked("3-2", "38: a smaller LAST", "chosen", 0);
    x.queue(0, 16, 1, 1);
    asked("3-2-4", "38: till there is none", "chosen", 0);
    x.clean(1);
    asked("3-4", "38: the one between MEETS it by cleaning", "chosen", 0);
    x.clean(2);
    asked("3", "38: all MEET it by cleaning", "chosen", 0);
    asked("0", "38: BEST WORTH is another one", "chosen", 1);
  }

  /** (Of several the smallest number.) */
  private static void chosenBySmallestNumber() {
    make();
    for (int i = 0; i < 12; i++) {
      x.queue(0, 10, 2, 5);
    }
    asked("0", "38: of twelve the first one", "chosen", 0);
    asked("0", "38: of twelve the first one, BEST WORTH", "chosen", 1);
    for (int i = 0; i < 11; i++) {
      x.cancel(i);
      asked("" + (i + 1), "38: the next one", "chosen", 0);
      asked("" + (i + 1), "38: the next one, BEST WORTH", "chosen", 1);
    }
    x.queue(0, 9, 3, 5);
    asked("11", "38: of the same LAST, whatever FIRST", "chosen", 0);
    asked("11", "38: of the same LAST and WORTH", "chosen", 1);
    x.queue(0, 12, 1, 5);
    x.queue(0, 12, 1, 5);
    asked("11-13", "38: of each the smallest number", "chosen", 0);
    asked("11-13", "38: of each the smallest number", "chosen", 1);
  }

  /** By rising FIRST, with "-" between two. */
  private static void chosenByFirst() {
    make();
    for (int i = 0; i < 12; i++) {
      x.queue(0, 90 - 5 * i, 5, 5);
    }
    String all = "11-10-9-8-7-6-5-4-3-2-1-0";
    asked(all, "38: by rising FIRST, not by rising number", "chosen", 0);
    asked(all, "38: by rising FIRST, not by rising number", "chosen", 1);
  }

  /** Or, if that is greater, that with it. */
  private static void chosenWorthTies() {
    make();
    x.queue(0, 10, 2, 5);
    x.queue(0, 12, 2, 5);
    x.queue(0, 10, 4, 10);
    asked("0-1", "38: the last one of the row gives no more", "chosen", 1);
    x.cancel(2);
    x.queue(0, 10, 4, 11);
    asked("3", "38: it gives more", "chosen", 1);
    x.queue(0, 12, 2, 6);
    asked("3", "38: the last one of the row, with the one ahead of it, gives no more", "chosen", 1);
    x.queue(0, 12, 2, 7);
    asked("0-5", "38: it gives more", "chosen", 1);
    make();
    x.queue(0, 12, 3, 10);
    x.queue(0, 12, 2, 10);
    asked("1", "38: the smaller LAST is ahead in the row: the other gives no more", "chosen", 1);
    x.queue(0, 10, 2, 1);
    asked("2-1", "38: with the one ahead of both", "chosen", 1);
  }

  /** The last one of the whole row is chosen only if that gives more, and so on backward. */
  private static void chosenWorthBackward() {
    make();
    x.queue(0, 10, 3, 10);
    x.queue(0, 12, 3, 20);
    x.queue(0, 14, 3, 20);
    x.queue(0, 16, 3, 10);
    asked("0-2", "38: the last two of the row come to as much", "chosen", 1);
    x.lengthen(0, 2);
    asked("1-3", "38: the first one MEETS the third one", "chosen", 1);
    x.queue(0, 15, 5, 30);
    asked("1-4", "38: from the last one of the row backward", "chosen", 1);
    x.queue(0, 20, 1, 1);
    asked("1-4-5", "38: and one behind it", "chosen", 1);
    one("50 and 1", 3, 51);
    asked("0-3-5", "38: MOST is otherwise", "chosen", 0);
  }

  private static void chosenWorthWithCleaning() {
    make();
    x.queue(0, 10, 2, 10);
    x.queue(0, 14, 2, 10);
    x.queue(0, 12, 2, 10);
    asked("0-2-1", "38: all three", "chosen", 1);
    x.clean(1);
    asked("0-1", "38: the one between MEETS both", "chosen", 1);
    x.clean(2);
    asked("0-1", "38: still not each other", "chosen", 1);
    x.lengthen(0, 1);
    asked("0", "38: all MEET: the first one of the row", "chosen", 1);
    asked("0", "38: all MEET: the smallest LAST", "chosen", 0);
  }

  /** "" without any. */
  private static void chosenOfNobody() {
    make();
    asked("", "38: nobody ever", "chosen", 0);
    asked("", "38: nobody ever", "chosen", 1);
    make(0);
    x.book(0, 5, 1, 1);
    x.queue(0, 5, 1, 1);
    asked("1", "38: one alone, no \"-\"", "chosen", 0);
    asked("1", "38: one alone, no \"-\"", "chosen", 1);
    x.cancel(0);
    asked("", "38: nobody WAITING", "chosen", 0);
    asked("", "38: nobody WAITING", "chosen", 1);
  }

  // ---- promise 40

  private static void digestIs(int numbers, String sentence) {
    List<Integer> row = Words.numbers(new Asker(x));
    Check.is(numbers, row.size(), sentence + ": how many numbers");
    asked(Words.whole(row).longValue(), sentence, "digest");
  }

  /** No ROOM, no STAY: 14 of house(), 31 of busy(), 3 of dealing(), 2, 1, 1, 1, 4, 2, 1. */
  private static void digestOfNothing() {
    make();
    digestIs(60, "40: no ROOM, no STAY");
    x.queue(0, 5, 1, 1);
    digestIs(70, "40: no ROOM, one STAY");
    make(0);
    digestIs(82, "40: one ROOM, no STAY");
    make(0, 1, 2, 0, 1, 2);
    digestIs(60 + 6 * 22, "40: six ROOMS, no STAY");
  }

  /** The last 10 STAYS (or as many as there are, the last one first). */
  private static void digestOfFewStays() {
    make(0);
    for (int stays = 1; stays <= 13; stays++) {
      x.hold(3, 3 * stays, 2, 10 + stays, 20 + stays);
      digestIs(82 + 10 * Math.min(10, stays), "40: STAYS: " + stays);
    }
  }

  private static void digestOfTenStays() {
    make();
    for (int i = 0; i < 9; i++) {
      x.queue(i % 4, i, 1, 1 + i);
    }
    digestIs(60 + 90, "40: nine STAYS: all of them");
    x.queue(0, 9, 1, 10);
    digestIs(60 + 100, "40: ten STAYS: all of them");
    x.queue(0, 10, 1, 11);
    digestIs(60 + 100, "40: eleven STAYS: the last ten");
    for (int i = 0; i < 11; i++) {
      x.cancel(i);
      digestIs(60 + 100, "40: GONE ones are among them");
    }
    x.undo();
    digestIs(60 + 100, "40: behind undo()");
  }

  /** It wraps around as a 64-bit integer. */
  private static void digestWrapsAround() {
    make();
    BigInteger whole = Words.whole(Words.numbers(new Asker(x)));
    Check.is(true, whole.bitLength() > 200, "40: far above 64 bits");
    long due = whole.mod(BigInteger.ONE.shiftLeft(64)).longValue();
    asked(due, "40: the lowest 64 bits", "digest");
    boolean isBelow = false;
    boolean isAbove = false;
    for (int i = 0; i < 20; i++) {
      x.knock();
      isBelow |= x.digest() < 0;
      isAbove |= x.digest() > 0;
      asked(Words.whole(Words.numbers(new Asker(x))).longValue(), "40: also below 0", "digest");
    }
    Check.is(true, isBelow && isAbove, "40: the highest bit is a sign");
  }

  /** Each number is part of it, at its place. */
  private static void digestOfEachNumber() {
    make(1, 0, 0);
    x.clean(1);
    x.base(0, 77);
    x.close(0, 49, 51);
    x.close(1, 30, 31);
    x.pass(3);
    for (int i = 0; i < 14; i++) {
      x.hold(i % 4, 7 * i % 50, 1 + i % 5, 10 + i, 9 + i);
      x.queue((i + 1) % 4, 5 * i % 20, 2 + i % 5, 20 + i);
      digestIs(60 + 66 + 10 * Math.min(10, x.house(1)), "40: as it grows");
    }
    x.blank();
    x.knock();
    x.pass(12);
    digestIs(60 + 66 + 100, "40: some are GONE, some have a ROOM from the list");
    x.undo();
    x.redeal();
    digestIs(60 + 66 + 100, "40: dealt anew");
  }

  /** Each NIGHT that is asked for is that NIGHT and no other one. */
  private static void digestOfEachNight() {
    for (int i = 0; i <= 121; i++) {
      int night = i / 2;
      make(0, 0);
      x.clean(i % 2);
      x.book(0, night, 1, 1);
      digestIs(60 + 44 + 10, "40: one has NIGHT " + night);
      x.hold(0, night, 1, 1, 1);
      digestIs(60 + 44 + 20, "40: two have NIGHT " + night);
      x.pass(1);
      x.move(0, 1);
      digestIs(60 + 44 + 20, "40: one has NIGHT " + night + " of the second ROOM");
      x.close(0, 17, 18);
      x.close(1, 14, 14);
      digestIs(60 + 44 + 20, "40: also beside CLOSURES");
    }
  }
}
