/** Promises 8 to 17: what is told of stays. */
public final class StayPromisesTest {
  private static final int LEAST = Integer.MIN_VALUE;
  private static final int GREATEST = Integer.MAX_VALUE;
  private static Used x;

  private StayPromisesTest() {
  }

  public static void main(String[] args) {
    book();
    betweenOthers();
    hold();
    queue();
    wrongStays();
    forty();
    group();
    pay();
    cancel();
    shorten();
    lengthen();
    move();
    redeal();
    redealByOrder();
    Check.end();
  }

  private static void make(int... kinds) {
    x = new Used();
    for (int kind : kinds) {
      x.room(kind);
    }
  }

  private static void book() {
    make(1, 0, 0);
    Check.is(0, x.book(0, 10, 3, 5), "8: its number");
    Check.is(1, x.ofStay(0, 6), "8: the first ROOM of its KIND");
    Check.is(1, x.ofStay(0, 5), "8: PAID at once");
    Check.is(1, x.book(0, 12, 3, 5), "8: the next number");
    Check.is(2, x.ofStay(1, 6), "8: the next ROOM of its KIND");
    Check.is(-1, x.book(0, 12, 1, 5), "8: no ROOM");
    Check.is(2, x.house(1), "8: it is not kept");
    Check.is(2, x.book(3, 12, 1, 5), "8: any KIND");
    Check.is(0, x.ofStay(2, 6), "8: the first ROOM of all");
    Check.is(-1, x.book(2, 0, 1, 5), "8: no ROOM of its KIND");
    Check.is(3, x.book(0, 13, 1, 5), "8: just behind another one");
    Check.is(1, x.ofStay(3, 6), "8: in the same ROOM");
    Check.is(4, x.book(0, 80, 20, 500), "8: up to the last NIGHT");
    Check.is(10, x.house(9), "8: also NONE is TOLD: 3 of room() and 7 of book()");
  }

  private static void betweenOthers() {
    make(0, 1, 1);
    x.clean(1);
    x.close(0, 4, 4);
    x.close(0, 8, 8);
    Check.is(-1, x.book(0, 5, 3, 1), "8: its own cleaning MEETS a CLOSURE");
    Check.is(0, x.book(0, 5, 2, 1), "8: just between two");
    Check.is(-1, x.hold(0, 2, 2, 1, 1), "9: its own cleaning MEETS a CLOSURE");
    Check.is(1, x.hold(0, 2, 1, 1, 1), "9: just ahead of it");
    x.close(2, 8, 8);
    Check.is(-1, x.group(1, 6, 2, 2, 1), "11: its own cleaning MEETS a CLOSURE");
    Check.is(2, x.group(1, 6, 1, 2, 1), "11: just ahead of it");
  }

  private static void hold() {
    make(0);
    x.pass(7);
    Check.is(0, x.hold(0, 0, 1, 1, 5), "9: its number");
    Check.is(0, x.ofStay(0, 5), "9: HELD");
    Check.is(12, x.ofStay(0, 7), "9: till HOUR and so many more");
    Check.is(0, x.ofStay(0, 6), "9: its ROOM");
    Check.is(-1, x.hold(0, 0, 1, 1, 5), "9: no ROOM");
    Check.is(1, x.house(1), "9: it is not kept");
    Check.is(1, x.hold(0, 1, 1, 1, 99), "9: 99 HOURS");
    Check.argument(() -> x.hold(0, 5, 1, 1, 0), "9: no HOURS");
    Check.argument(() -> x.hold(0, 5, 1, 1, 100), "9: 100 HOURS");
    Check.is(5, x.house(9), "9: what throws is not TOLD");
  }

  private static void queue() {
    make(0);
    Check.is(0, x.queue(0, 0, 1, 1), "10: its number");
    Check.is(2, x.ofStay(0, 5), "10: WAITING, also with a FREE ROOM");
    Check.is(1, x.queue(2, 0, 1, 1), "10: the next one");
    Check.is(1, x.waiting(1), "10: behind all others");
    Check.is(2, x.house(4), "10: the list is not looked after");
    Check.is(2, x.book(0, 0, 1, 1), "10: another one may get the ROOM");
  }

  private static void wrongStays() {
    make(0, 0);
    int[][] wrong = {{-1, 0, 1, 1}, {4, 0, 1, 1}, {0, -1, 1, 1}, {0, 100, 1, 1}, {0, 0, 0, 1},
        {0, 0, 21, 1}, {0, 99, 2, 1}, {0, 80, 21, 1}, {0, 81, 20, 1}, {0, 0, 1, 0}, {0, 0, 1, 501},
        {LEAST, 0, 1, 1}, {0, GREATEST, GREATEST, 1}, {0, 99, GREATEST, 1}, {0, LEAST, LEAST, 1},
        {GREATEST, 0, 1, 1}, {0, 0, 1, LEAST}, {0, 0, 1, GREATEST}};
    for (int[] w : wrong) {
      String told = java.util.Arrays.toString(w);
      Check.argument(() -> x.book(w[0], w[1], w[2], w[3]), "8: " + told);
      Check.argument(() -> x.hold(w[0], w[1], w[2], w[3], 1), "9: " + told);
      Check.argument(() -> x.queue(w[0], w[1], w[2], w[3]), "10: " + told);
      Check.argument(() -> x.group(w[0], w[1], w[2], 2, w[3]), "11: " + told);
    }
    Check.is(2, x.house(9), "8 to 11: none of it is TOLD");
    Check.is(0, x.house(1), "8 to 11: none of it is kept");
  }

  private static void forty() {
    make(0, 0, 0, 0);
    for (int i = 0; i < 9; i++) {
      x.group(0, i, 1, 4, 1);
    }
    x.queue(1, 0, 1, 1);
    x.queue(1, 0, 1, 1);
    Check.is(38, x.hold(0, 20, 1, 1, 1), "8 to 11: the 39th");
    Check.state(() -> x.group(0, 21, 1, 2, 1), "11: 41 would be");
    Check.state(() -> x.group(2, 21, 1, 2, 1), "11: also if there are no such ROOMS");
    Check.is(39, x.book(0, 20, 1, 1), "8: the 40th");
    Check.state(() -> x.book(0, 20, 1, 1), "8: 40 are BOOKED or WAITING");
    Check.state(() -> x.book(2, 20, 1, 1), "8: also without a ROOM");
    Check.state(() -> x.hold(0, 20, 1, 1, 1), "9: 40 are BOOKED or WAITING");
    Check.state(() -> x.queue(0, 20, 1, 1), "10: 40 are BOOKED or WAITING");
    Check.argument(() -> x.book(4, 20, 1, 1), "8: the arguments are named first");
    Check.argument(() -> x.hold(0, 20, 1, 1, 0), "9: the arguments are named first");
    Check.argument(() -> x.queue(0, 20, 1, 0), "10: the arguments are named first");
    Check.argument(() -> x.group(0, 20, 1, 5, 1), "11: the arguments are named first");
    Check.is(-1, x.moves(0, 0, 1), "34: 40 are no limit for what would be");
    x.cancel(36);
    Check.is(40, x.queue(0, 20, 1, 1), "10: GONE ones make place");
    x.cancel(0);
    x.pass(1);
    Check.is(38, x.house(3) + x.house(4), "7: one more is GONE");
    Check.is(41, x.group(0, 30, 1, 2, 1), "11: just 40");
    Check.is(true, x.isSound(), "39: with 40");
  }

  private static void group() {
    make(0, 1, 0, 0, 0);
    x.close(3, 5, 5);
    Check.is(0, x.group(0, 0, 5, 3, 7), "11: its first number");
    Check.is(2, x.ofStay(0, 6), "11: side by side: the first ROOM");
    Check.is(3, x.ofStay(1, 6), "11: the second one");
    Check.is(4, x.ofStay(2, 6), "11: the third one");
    Check.is(7, x.ofStay(2, 4), "11: the WORTH of each");
    Check.is(5, x.ofStay(1, 2), "11: the NIGHTS of each");
    Check.is(1, x.ofStay(1, 5), "11: PAID");
    Check.is(-1, x.group(0, 5, 1, 2, 1), "11: one between them is CLOSED, one is of another KIND");
    Check.is(3, x.house(1), "11: none is kept");
    Check.is(3, x.group(3, 5, 1, 3, 1), "11: any KIND");
    Check.is(0, x.ofStay(3, 6), "11: the smallest numbers");
    Check.is(6, x.group(0, 10, 1, 2, 1), "11: the KIND aside");
    Check.is(2, x.ofStay(6, 6), "11: those side by side");
    Check.is(-1, x.group(0, 20, 1, 4, 1), "11: so many are not side by side");
    Check.is(8, x.group(3, 20, 1, 4, 1), "11: four");
    Check.argument(() -> x.group(0, 30, 1, 1, 1), "11: one");
    Check.argument(() -> x.group(0, 30, 1, 5, 1), "11: five");
    make(0, 0, 0, 0, 0, 0);
    x.book(0, 0, 1, 1);
    x.book(0, 0, 1, 1);
    Check.is(2, x.group(0, 0, 1, 4, 1), "11: the last four of six");
    Check.is(5, x.ofStay(5, 6), "11: up to the last ROOM");
  }

  private static void pay() {
    make(0);
    x.hold(0, 0, 1, 1, 9);
    x.book(0, 1, 1, 1);
    x.queue(0, 1, 1, 1);
    x.pass(4);
    Check.is(5, x.pay(0), "12: the HOURS that were left");
    Check.is(1, x.ofStay(0, 5), "12: PAID");
    Check.is(-1, x.ofStay(0, 7), "12: HELD no more");
    Check.state(() -> x.pay(0), "12: PAID already");
    Check.state(() -> x.pay(1), "12: PAID at once");
    Check.state(() -> x.pay(2), "12: WAITING");
    x.cancel(0);
    Check.state(() -> x.pay(0), "12: GONE");
    Check.index(() -> x.pay(3), "12: no such STAY");
    Check.index(() -> x.pay(-1), "12: no such STAY");
    x.hold(0, 5, 1, 1, 1);
    Check.is(1, x.pay(3), "12: in the last HOUR");
    Check.is(0, x.pass(9), "12: what is PAID does not lapse");
  }

  private static void cancel() {
    make(0, 0);
    x.book(0, 0, 2, 1);
    x.book(0, 0, 2, 1);
    x.queue(0, 0, 1, 1);
    x.queue(0, 1, 1, 1);
    x.queue(0, 0, 1, 1);
    Check.is(1, x.cancel(1), "13: its ROOM");
    Check.is(3, x.ofStay(1, 5), "13: GONE");
    Check.is(-1, x.ofStay(1, 6), "13: in no ROOM");
    Check.is(2, x.ofStay(1, 2), "13: its LENGTH is kept");
    Check.is(1, x.ofStay(2, 6), "13: the list is looked after, in its order");
    Check.is(1, x.ofStay(3, 6), "13: as far as there is place");
    Check.is(2, x.ofStay(4, 5), "13: and no farther");
    Check.is(-1, x.cancel(4), "13: it was WAITING");
    Check.is(3, x.ofStay(4, 5), "13: GONE");
    Check.state(() -> x.cancel(4), "13: GONE already");
    Check.index(() -> x.cancel(5), "13: no such STAY");
    Check.index(() -> x.cancel(-1), "13: no such STAY");
    Check.is(2, x.house(5), "13: GONE ones");
    int one = x.queue(0, 50, 1, 1);
    int other = x.queue(1, 50, 1, 1);
    x.cancel(other);
    Check.is(1, x.ofStay(one, 5), "13: also behind one that was WAITING");
    int held = x.hold(0, 60, 1, 1, 5);
    Check.is(0, x.cancel(held), "13: a HELD one");
    Check.is(0, x.pass(9), "13: it does not lapse any more");
  }

  private static void shorten() {
    make(0);
    x.clean(1);
    x.book(0, 0, 5, 1);
    x.queue(0, 4, 2, 1);
    x.queue(0, 4, 1, 1);
    Check.is(4, x.shorten(0, 1), "14: LENGTH then");
    Check.is(2, x.ofStay(1, 5), "14: the NIGHT is for cleaning");
    Check.is(2, x.shorten(1, 1) + x.ofStay(1, 2), "14: one that is WAITING");
    Check.is(3, x.shorten(0, 1), "14: again");
    Check.is(1, x.ofStay(1, 5), "14: the list is looked after");
    Check.is("000:1:..............", x.text(0, 0), "14: the text");
    Check.state(() -> x.shorten(0, 3), "14: LENGTH is not more than that");
    Check.state(() -> x.shorten(0, 20), "14: nor than 20");
    Check.argument(() -> x.shorten(0, 0), "14: no NIGHTS");
    Check.argument(() -> x.shorten(0, 21), "14: 21 NIGHTS");
    Check.is(1, x.shorten(0, 2), "14: one is left");
    Check.is(0, x.ofStay(0, 3), "14: LAST");
    x.cancel(0);
    Check.state(() -> x.shorten(0, 1), "14: GONE");
    x.book(0, 30, 9, 1);
    x.cancel(3);
    Check.state(() -> x.shorten(3, 1), "14: GONE, with a LENGTH of 9");
    Check.argument(() -> x.shorten(0, 0), "14: the NIGHTS are named ahead of that");
    Check.index(() -> x.shorten(4, 0), "14: no such STAY, which is named first");
    Check.index(() -> x.shorten(-1, 1), "14: no such STAY");
  }

  private static void lengthen() {
    make(0);
    x.clean(1);
    x.hold(0, 0, 2, 1, 9);
    x.book(0, 5, 2, 1);
    x.queue(0, 0, 19, 1);
    Check.is(-1, x.lengthen(0, 3), "15: the cleaning would be one NIGHT too late");
    Check.is(2, x.ofStay(0, 2), "15: nothing changes");
    Check.is(4, x.lengthen(0, 2), "15: LENGTH then");
    Check.is("0000:11:............", x.text(0, 0), "15: the text");
    Check.is(20, x.lengthen(2, 1), "15: one that is WAITING");
    Check.state(() -> x.lengthen(2, 1), "15: above 20");
    Check.state(() -> x.lengthen(1, 19), "15: above 20");
    x.book(0, 98, 1, 1);
    Check.is(2, x.lengthen(3, 1), "15: up to the last NIGHT");
    Check.state(() -> x.lengthen(3, 1), "15: LAST above 99");
    Check.argument(() -> x.lengthen(0, 0), "15: no NIGHTS");
    Check.argument(() -> x.lengthen(0, 21), "15: 21 NIGHTS");
    x.close(0, 10, 10);
    Check.is(-1, x.lengthen(1, 3), "15: a CLOSURE, by the cleaning");
    Check.is(4, x.lengthen(1, 2), "15: just up to it");
    x.cancel(1);
    Check.state(() -> x.lengthen(1, 1), "15: GONE");
    Check.argument(() -> x.lengthen(1, 0), "15: the NIGHTS are named ahead of that");
    Check.index(() -> x.lengthen(4, 0), "15: no such STAY, which is named first");
    make(0);
    x.book(0, 0, 1, 1);
    x.queue(0, 9, 1, 1);
    x.lengthen(0, 1);
    Check.is(2, x.ofStay(1, 5), "15: the list is not looked after");
  }

  private static void move() {
    make(0, 1, 0, 0);
    x.book(0, 0, 3, 1);
    x.book(0, 2, 3, 1);
    x.queue(0, 0, 1, 1);
    x.queue(0, 90, 1, 1);
    Check.is(-1, x.move(0, 0), "16: it is there already");
    Check.is(-1, x.move(0, 1), "16: another KIND");
    Check.is(-1, x.move(0, 2), "16: not FREE");
    Check.is(2, x.ofStay(3, 5), "16: NONE looks after nothing");
    Check.is(0, x.move(0, 3), "16: where it was");
    Check.is(3, x.ofStay(0, 6), "16: it is there");
    Check.is(0, x.ofStay(2, 6), "16: the list is looked after");
    x.cancel(3);
    Check.state(() -> x.move(3, 2), "16: GONE");
    int waits = x.queue(0, 0, 1, 1);
    Check.state(() -> x.move(waits, 3), "16: WAITING");
    Check.index(() -> x.move(waits + 1, 0), "16: no such STAY");
    Check.index(() -> x.move(-1, 0), "16: no such STAY");
    Check.index(() -> x.move(waits, 4), "16: no such ROOM, which is named first");
    Check.index(() -> x.move(1, -1), "16: no such ROOM");
    make(0, 0);
    x.book(0, 0, 1, 1);
    x.book(0, 0, 1, 1);
    Check.is(-1, x.move(1, 0), "16: the first STAY of all MEETS it there");
    make(0, 1);
    x.hold(3, 0, 1, 1, 5);
    Check.is(0, x.move(0, 1), "16: any KIND");
    Check.is(0, x.ofStay(0, 5), "16: still HELD");
    x.close(0, 0, 0);
    Check.is(-1, x.move(0, 0), "16: a CLOSURE");
  }

  private static void redeal() {
    make(0, 0, 1);
    Check.is(0, x.redeal(), "17: none is BOOKED");
    x.book(0, 0, 2, 1);
    x.book(0, 1, 2, 1);
    x.book(1, 0, 3, 1);
    x.book(0, 2, 2, 1);
    x.queue(0, 50, 1, 1);
    Check.is(0, x.redeal(), "17: all are where they get");
    Check.is(2, x.ofStay(4, 5), "17: 0 looks after nothing");
    x.cancel(0);
    Check.is(1, x.ofStay(4, 5), "17: cancel() looks after it");
    int listed = x.queue(0, 60, 1, 1);
    Check.is(2, x.redeal(), "17: two are in another ROOM");
    Check.is(0, x.ofStay(1, 6), "17: the first one gets the first ROOM");
    Check.is(1, x.ofStay(3, 6), "17: the next one gets the other one");
    Check.is(2, x.ofStay(2, 6), "17: each by its KIND");
    Check.is(1, x.ofStay(listed, 5), "17: the list is looked after");
    Check.is("222.................", x.text(2, 0), "17: the text");
    Check.is(".11.................", x.text(0, 0), "17: the text");
  }

  private static void redealByOrder() {
    make(0, 1);
    x.book(0, 5, 2, 1);
    x.book(3, 4, 2, 1);
    x.queue(3, 50, 1, 1);
    Check.is(1, x.ofStay(1, 6), "17: the other ROOM");
    Check.is(-1, x.redeal(), "17: the one with the smaller FIRST takes the only ROOM");
    Check.is(0, x.ofStay(0, 6), "17: nothing changes");
    Check.is(1, x.ofStay(1, 6), "17: nothing changes");
    Check.is(2, x.ofStay(2, 5), "17: NONE looks after nothing");
    make(0, 0);
    x.book(0, 5, 1, 1);
    x.book(0, 5, 1, 1);
    x.cancel(0);
    x.book(0, 5, 1, 1);
    Check.is(0, x.ofStay(2, 6), "17: the later one is in the first ROOM");
    Check.is(2, x.redeal(), "17: of the same FIRST by rising number");
    Check.is(0, x.ofStay(1, 6), "17: they are the other way round");
    make(0, 0);
    x.close(0, 5, 5);
    x.hold(0, 3, 3, 1, 5);
    Check.is(0, x.redeal(), "17: a CLOSURE is minded");
    x.open(0, 5);
    Check.is(1, x.redeal(), "17: no CLOSURE any more");
    Check.is(0, x.ofStay(0, 5), "17: still HELD");
    make(0, 0);
    x.clean(1);
    x.book(0, 0, 2, 1);
    x.book(0, 0, 2, 1);
    x.cancel(0);
    x.book(0, 3, 2, 1);
    Check.is(1, x.redeal(), "17: with the cleaning they do not MEET in one ROOM");
    Check.is("11:22:..............", x.text(0, 0), "17: both are in the first ROOM");
    make(0, 0);
    x.close(0, 0, 0);
    x.book(0, 0, 3, 1);
    Check.is(0, x.redeal(), "17: a CLOSURE of the first NIGHT");
    x.open(0, 0);
    x.close(0, 3, 3);
    Check.is(1, x.redeal(), "17: its last NIGHT is just ahead of the CLOSURE");
    Check.is("....................", x.text(1, 0), "17: nothing of it is left there");
    x.cancel(0);
    x.clean(1);
    x.book(0, 0, 3, 1);
    Check.is(1, x.ofStay(1, 6), "17: its cleaning MEETS the CLOSURE");
    Check.is(0, x.redeal(), "17: also when it is dealt");
    make(0, 0);
    x.clean(1);
    x.group(0, 5, 2, 2, 1);
    x.cancel(0);
    x.redeal();
    Check.is(".....11:............", x.text(0, 0), "17: with its cleaning");
    Check.is("....................", x.text(1, 0), "17: nor is its cleaning left there");
    make(0, 0);
    x.clean(1);
    x.book(0, 0, 2, 1);
    x.book(0, 2, 2, 1);
    x.cancel(0);
    x.book(0, 0, 1, 1);
    Check.is(1, x.redeal(), "17: only the second one is put");
  }
}
