/** Promises 1 to 7 and 18 to 21: the house, what is undone, what is never let. */
public final class HousePromisesTest {
  private static Used x;

  private HousePromisesTest() {
  }

  public static void main(String[] args) {
    aNewObject();
    room();
    close();
    open();
    clean();
    base();
    pass();
    theListWithCleaning();
    passAtItsEnd();
    undo();
    undoOfEach();
    never();
    Check.end();
  }

  private static void make(int... kinds) {
    x = new Used();
    for (int kind : kinds) {
      x.room(kind);
    }
  }

  private static void aNewObject() {
    make();
    for (int what = 0; what <= 13; what++) {
      Check.is(0, x.house(what), "1: house(" + what + ") of a new object");
    }
    for (int kind = 0; kind <= 2; kind++) {
      Check.is(100, x.price(kind, 0, 1), "1: a BASE at first");
    }
    Check.is("", x.chosen(false), "1: nobody is WAITING");
    Check.is(true, x.isSound(), "1: a new object is SOUND");
    Used other = new Used();
    other.room(0);
    other.knock();
    Check.is(0, x.house(0), "1: an object has its own ROOMS");
    Check.is(1, x.knock(), "1: an object has its own knocks");
  }

  private static void room() {
    make();
    Check.is(0, x.room(2), "2: the first ROOM");
    Check.is(1, x.room(0), "2: the second one");
    Check.is(2, x.ofRoom(0, 0), "2: its KIND");
    Check.argument(() -> x.room(-1), "2: kind -1");
    Check.argument(() -> x.room(3), "2: kind 3");
    int one = x.queue(1, 5, 2, 1);
    int any = x.queue(3, 5, 2, 1);
    int other = x.queue(1, 6, 2, 1);
    Check.is(2, x.room(1), "2: the third one");
    Check.is(2, x.ofStay(one, 6), "2: the first one WAITING gets the new ROOM");
    Check.is(1, x.ofStay(one, 5), "2: and is PAID");
    Check.is(0, x.ofStay(any, 6), "2: the second one gets that with the smallest number");
    Check.is(2, x.ofStay(other, 5), "2: the third one goes on WAITING");
    Check.is(2, x.house(13), "2: two got a ROOM");
    x.room(0);
    x.room(0);
    Check.is(5, x.room(0), "2: the sixth ROOM");
    Check.state(() -> x.room(0), "2: a seventh ROOM");
    Check.argument(() -> x.room(3), "2: the kind is named first");
    Check.is(6, x.house(0), "2: ROOMS");
  }

  private static void close() {
    make(0, 0);
    x.clean(1);
    x.book(0, 10, 2, 1);
    Check.is(1, x.close(0, 13, 15), "3: behind the cleaning");
    Check.is(-1, x.close(0, 12, 12), "3: in the cleaning");
    Check.is(-1, x.close(0, 5, 10), "3: over the FIRST");
    Check.is(-1, x.close(0, 15, 20), "3: over another CLOSURE");
    Check.is(-1, x.close(0, 0, 99), "3: over all");
    Check.is(2, x.close(0, 16, 16), "3: side by side with another CLOSURE");
    Check.is(3, x.close(0, 0, 9), "3: just ahead of a STAY");
    Check.is(4, x.close(0, 99, 99), "3: the last NIGHT");
    Check.is(1, x.close(1, 0, 99), "3: all NIGHTS of another ROOM");
    Check.is(5, x.house(8), "3: CLOSURES");
    Check.is("##########00:####...", x.text(0, 0), "3: the text");
    Check.index(() -> x.close(2, 0, 0), "3: no such ROOM");
    Check.index(() -> x.close(-1, -1, -1), "3: the ROOM is named first");
    Check.argument(() -> x.close(0, -1, 5), "3: from -1");
    Check.argument(() -> x.close(0, 100, 100), "3: from 100");
    Check.argument(() -> x.close(0, 20, 19), "3: to below from");
    Check.argument(() -> x.close(0, 20, 100), "3: to 100");
    Check.is(5, x.house(8), "3: what throws changes nothing");
    make(0);
    x.queue(0, 5, 1, 1);
    x.close(0, 20, 21);
    Check.is(1, x.house(4), "3: the list is not looked after");
    x.clean(2);
    x.book(0, 98, 2, 1);
    Check.is(-1, x.close(0, 99, 99), "3: the last NIGHT of a STAY");
  }

  private static void open() {
    make(0);
    x.close(0, 5, 9);
    x.close(0, 10, 10);
    int stay = x.queue(0, 8, 2, 1);
    int late = x.queue(0, 9, 1, 1);
    int other = x.queue(0, 30, 1, 1);
    Check.is(-1, x.open(0, 6), "4: inside a CLOSURE");
    Check.is(-1, x.open(0, 4), "4: ahead of it");
    Check.is(2, x.ofStay(other, 5), "4: NONE looks after nothing");
    Check.is(5, x.open(0, 5), "4: its NIGHTS");
    Check.is(1, x.ofStay(stay, 5), "4: the list is looked after");
    Check.is(2, x.ofStay(late, 5), "4: the second one finds the ROOM taken");
    Check.is(1, x.ofStay(other, 5), "4: the third one does not");
    Check.is(-1, x.open(0, 5), "4: it is open already");
    Check.is(-1, x.open(0, 8), "4: a STAY is no CLOSURE");
    Check.is(1, x.open(0, 10), "4: a NIGHT");
    Check.is(0, x.ofRoom(0, 2), "4: none is left");
    x.close(0, 0, 3);
    Check.is(4, x.open(0, 0), "4: from the first NIGHT on");
    x.close(0, 99, 99);
    Check.is(1, x.open(0, 99), "4: the last NIGHT");
    Check.index(() -> x.open(1, 0), "4: no such ROOM");
    Check.index(() -> x.open(-1, 100), "4: the ROOM is named first");
    Check.argument(() -> x.open(0, -1), "4: from -1");
    Check.argument(() -> x.open(0, 100), "4: from 100");
  }

  private static void clean() {
    make(0);
    Check.is(0, x.clean(2), "5: that before");
    Check.is(2, x.clean(1), "5: that before");
    x.queue(0, 5, 1, 1);
    Check.is(1, x.clean(1), "5: also with one WAITING");
    int stay = x.hold(0, 0, 2, 1, 1);
    Check.state(() -> x.clean(0), "5: one is HELD");
    Check.argument(() -> x.clean(3), "5: 3, which is named first");
    Check.argument(() -> x.clean(-1), "5: -1, which is named first");
    x.pay(stay);
    Check.state(() -> x.clean(1), "5: one is PAID");
    Check.is(1, x.house(7), "5: CLEAN");
    Check.is(-1, x.book(0, 2, 1, 1), "5: the NIGHT of cleaning is taken");
    Check.is(-1, x.hold(0, 2, 3, 1, 1), "5: the cleaning of another one is none of it");
    Check.is(2, x.book(0, 3, 1, 1), "5: behind it is FREE");
    x.cancel(stay);
    x.cancel(2);
    Check.is(1, x.house(3), "5: the one that was WAITING is PAID by then");
    x.cancel(0);
    Check.is(1, x.clean(0), "5: GONE ones do not matter");
  }

  private static void base() {
    make(0);
    Check.is(100, x.base(0, 0), "6: 100 at first");
    Check.is(0, x.base(0, 500), "6: that before");
    Check.is(100, x.base(1, 7), "6: of another KIND");
    Check.is(100, x.base(2, 8), "6: of the third one");
    Check.is(500, x.price(0, 0, 1), "6: the PRICE of it");
    Check.is(7, x.price(1, 0, 1), "6: the PRICE of the second one");
    Check.argument(() -> x.base(-1, 5), "6: kind -1");
    Check.argument(() -> x.base(3, 5), "6: kind 3");
    Check.argument(() -> x.base(0, -1), "6: base -1");
    Check.argument(() -> x.base(0, 501), "6: base 501");
    Check.is(500, x.base(0, 500), "6: what throws changes nothing");
  }

  private static void pass() {
    make(0);
    x.hold(0, 0, 1, 1, 3);
    x.hold(0, 1, 1, 1, 4);
    x.hold(0, 2, 1, 1, 99);
    int paid = x.hold(0, 3, 1, 1, 1);
    x.pay(paid);
    int listed = x.queue(0, 0, 1, 1);
    int behind = x.queue(0, 50, 1, 1);
    Check.is(0, x.pass(2), "7: none is GONE");
    Check.is(2, x.ofStay(behind, 5), "7: then the list is not looked after");
    Check.is(1, x.pass(1), "7: the one whose HOUR it is");
    Check.is(3, x.ofStay(0, 5), "7: it is GONE");
    Check.is(-1, x.ofStay(0, 6), "7: it has no ROOM");
    Check.is(0, x.ofStay(1, 5), "7: the next one is still HELD");
    Check.is(0, x.ofStay(listed, 6), "7: the list is looked after");
    Check.is(1, x.ofStay(behind, 5), "7: all of it");
    Check.is(2, x.pass(99), "7: two at once");
    Check.is(1, x.ofStay(paid, 5), "7: PAID ones stay");
    Check.is(102, x.house(6), "7: HOUR");
    Check.argument(() -> x.pass(0), "7: no HOURS");
    Check.argument(() -> x.pass(100), "7: 100 HOURS");
    Check.argument(() -> x.pass(-5), "7: -5 HOURS");
  }

  private static void theListWithCleaning() {
    make(0);
    x.clean(2);
    x.close(0, 5, 5);
    x.book(0, 50, 3, 1);
    int late = x.queue(0, 3, 1, 1);
    int early = x.queue(0, 2, 1, 1);
    int behind = x.queue(0, 6, 1, 1);
    x.shorten(0, 1);
    Check.is(2, x.ofStay(late, 5), "14: its cleaning MEETS the CLOSURE");
    Check.is(1, x.ofStay(early, 5), "14: just ahead of it");
    Check.is(1, x.ofStay(behind, 5), "14: just behind it");
    make(0);
    x.hold(0, 5, 1, 1, 1);
    Check.is(1, x.pass(1), "7: the only one is GONE");
  }

  private static void passAtItsEnd() {
    make(0);
    for (int i = 0; i < 101; i++) {
      x.pass(99);
    }
    Check.is(0, x.hold(0, 0, 1, 1, 99), "7: HELD beyond the last HOUR");
    Check.is(9999 + 99, x.ofStay(0, 7), "7: till then");
    Check.state(() -> x.pass(1), "7: above 9999");
    Check.argument(() -> x.pass(100), "7: the HOURS are named first");
    Check.is(9999, x.house(6), "7: the last HOUR");
    x.undo();
    x.undo();
    Check.is(9900, x.house(6), "7: undone");
    x.pass(1);
    Check.state(() -> x.pass(99), "7: 9901 and 99 is above 9999");
    Check.is(0, x.pass(98), "7: up to 9999");
  }

  private static void undo() {
    make();
    Check.state(() -> x.undo(), "18: nothing is TOLD");
    x.room(0);
    int stay = x.book(0, 5, 3, 9);
    x.queue(0, 6, 3, 8);
    x.waiting(7);
    x.knock();
    x.cancel(stay);
    Check.is(1, x.house(13), "18: one got a ROOM");
    Check.is(3, x.undo(), "18: three are TOLD then");
    Check.is(1, x.ofStay(stay, 5), "18: it is PAID again");
    Check.is(2, x.ofStay(1, 5), "18: the other one is WAITING again");
    Check.is(0, x.house(13), "18: those that were undone aside");
    Check.is(1, x.house(10), "18: the -9 stay counted");
    Check.is(1, x.house(11), "18: the knocks, too");
    Check.is(2, x.undo(), "18: the list is undone");
    Check.index(() -> x.ofStay(1, 0), "18: the STAY is not there any more");
    Check.is(1, x.queue(0, 20, 1, 1), "18: its number is given again");
    Check.is(20, x.ofStay(1, 1), "18: to the new one");
    Check.is(2, x.undo(), "18: undone");
    Check.is(1, x.undo(), "18: undone");
    Check.is(0, x.undo(), "18: undone");
    Check.is(0, x.house(0), "18: no ROOM is left");
    Check.state(() -> x.undo(), "18: nothing is left");
    Check.is(true, x.isSound(), "18: SOUND all the way");
  }

  private static void undoOfEach() {
    make(0, 1, 0);
    x.close(0, 1, 2);
    x.close(0, 2, 5);
    Check.is(4, x.undo(), "18: also such as told NONE are TOLD");
    x.undo();
    Check.is(0, x.house(8), "18: a CLOSURE");
    x.close(0, 1, 2);
    x.open(0, 1);
    x.undo();
    Check.is(1, x.house(8), "18: opened no more");
    x.clean(2);
    x.undo();
    Check.is(0, x.house(7), "18: CLEAN");
    x.base(0, 5);
    x.undo();
    Check.is(100, x.base(0, 100), "18: BASE");
    int held = x.hold(0, 10, 5, 5, 5);
    x.pass(6);
    x.undo();
    Check.is(0, x.house(6), "18: HOUR");
    Check.is(0, x.ofStay(held, 5), "18: HELD again");
    x.pay(held);
    x.undo();
    Check.is(5, x.ofStay(held, 7), "18: not PAID any more");
    x.shorten(held, 2);
    x.undo();
    Check.is("00000", x.text(0, 10).substring(0, 5), "18: not shorter any more");
    x.lengthen(held, 2);
    x.undo();
    Check.is("00000.", x.text(0, 10).substring(0, 6), "18: not longer any more");
    x.move(held, 2);
    x.undo();
    Check.is(0, x.ofStay(held, 6), "18: not moved any more");
    x.move(held, 2);
    x.redeal();
    Check.is(0, x.ofStay(held, 6), "18: dealt anew");
    x.undo();
    Check.is(2, x.ofStay(held, 6), "18: not dealt any more");
    x.group(0, 30, 1, 2, 1);
    x.undo();
    Check.is(1, x.house(1), "18: no group");
    Check.is(true, x.isSound(), "18: SOUND");
  }

  private static void never() {
    make(0);
    Check.is(-9, x.blank(), "19: blank");
    Check.is(1, x.house(10), "19: it is counted");
    x.queue(0, 5, 1, 1);
    Check.is(-9, x.tear(), "20: tear");
    Check.is(2, x.house(10), "20: it is counted");
    Check.is(0, x.waiting(0), "20: the first one is still WAITING");
    Check.is(1, x.house(4), "20: nothing changes");
    Check.is(1, x.knock(), "21: the first knock");
    Check.is(2, x.knock(), "21: the second one");
    Check.is(2, x.house(11), "21: it is counted");
    Check.is(2, x.house(9), "21: none of it is TOLD");
    x.undo();
    Check.is(3, x.knock(), "21: ever, also behind undo()");
  }
}
