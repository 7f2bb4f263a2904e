/** Promises 22 to 33: what is asked of the house as it is. */
public final class AskedPromisesTest {
  private static Used x;

  private AskedPromisesTest() {
  }

  public static void main(String[] args) {
    ofStay();
    ofRoom();
    at();
    between();
    text();
    waiting();
    busy();
    house();
    free();
    hinders();
    dealing();
    dealt();
    Check.end();
  }

  private static void make(int... kinds) {
    x = new Used();
    for (int kind : kinds) {
      x.room(kind);
    }
  }

  private static void stay(int stay, int... due) {
    for (int what = 0; what < due.length; what++) {
      Check.is(due[what], x.ofStay(stay, what), "22: ofStay(" + stay + ", " + what + ")");
    }
  }

  private static void ofStay() {
    make(0, 0, 1);
    x.clean(2);
    x.hold(3, 5, 4, 77, 9);
    x.book(1, 6, 1, 500);
    x.queue(0, 7, 2, 3);
    x.queue(2, 99, 1, 4);
    stay(0, 3, 5, 4, 8, 77, 0, 0, 9, -1);
    stay(1, 1, 6, 1, 6, 500, 1, 2, -1, -1);
    stay(2, 0, 7, 2, 8, 3, 2, -1, -1, 0);
    stay(3, 2, 99, 1, 99, 4, 2, -1, -1, 1);
    x.cancel(0);
    stay(0, 3, 5, 4, 8, 77, 3, -1, -1, -1);
    stay(3, 2, 99, 1, 99, 4, 2, -1, -1, 0);
    Check.index(() -> x.ofStay(4, 0), "22: no such STAY");
    Check.index(() -> x.ofStay(-1, 9), "22: the STAY is named first");
    Check.argument(() -> x.ofStay(0, -1), "22: what -1");
    Check.argument(() -> x.ofStay(0, 9), "22: what 9");
  }

  private static void room(int room, int... due) {
    for (int what = 0; what < due.length; what++) {
      Check.is(due[what], x.ofRoom(room, what), "23: ofRoom(" + room + ", " + what + ")");
    }
  }

  private static void ofRoom() {
    make(2, 1);
    room(0, 2, 0, 0, 0, 0, -1, -1);
    x.clean(1);
    x.book(2, 50, 4, 10);
    x.hold(2, 99, 1, 20, 1);
    x.book(2, 0, 3, 30);
    x.queue(2, 0, 3, 30);
    x.close(0, 10, 12);
    x.close(0, 20, 20);
    room(0, 2, 3, 2, 8, 60, 2, 1);
    room(1, 1, 0, 0, 0, 0, -1, -1);
    x.cancel(1);
    room(0, 2, 2, 2, 7, 40, 2, 0);
    Check.index(() -> x.ofRoom(2, 0), "23: no such ROOM");
    Check.index(() -> x.ofRoom(-1, 7), "23: the ROOM is named first");
    Check.argument(() -> x.ofRoom(0, -1), "23: what -1");
    Check.argument(() -> x.ofRoom(0, 7), "23: what 7");
  }

  private static void at(int room, int night, int... due) {
    for (int what = 0; what < due.length; what++) {
      Check.is(due[what], x.at(room, night, what), "24: at(" + room + ", " + night + ", " + what
          + ")");
    }
  }

  private static void at() {
    make(0, 0);
    x.clean(1);
    x.book(0, 10, 3, 1);
    x.book(0, 5, 2, 1);
    x.book(0, 11, 9, 1);
    x.close(0, 30, 31);
    x.book(0, 98, 2, 1);
    at(0, 0, -1, -1, -1, 1, -1);
    at(0, 4, -1, -1, -1, 1, -1);
    at(0, 5, 1, 1, 1, 0, -1);
    at(0, 6, 1, 1, 1, 0, 1);
    at(0, 7, -1, 1, 1, 0, 1);
    at(0, 8, -1, -1, 1, 0, 1);
    at(0, 10, 0, 0, 0, 3, 1);
    at(0, 12, 0, 0, 0, 3, 0);
    at(0, 13, -1, 0, 0, 3, 0);
    at(0, 30, -1, -1, 0, 3, 0);
    at(0, 98, 3, 3, 3, -1, 0);
    at(0, 99, 3, 3, 3, -1, 3);
    at(1, 12, 2, 2, 2, -1, 2);
    Check.index(() -> x.at(2, 0, 0), "24: no such ROOM");
    Check.index(() -> x.at(-1, -1, -1), "24: the ROOM is named first");
    Check.argument(() -> x.at(0, -1, 0), "24: night -1");
    Check.argument(() -> x.at(0, 100, 0), "24: night 100");
    Check.argument(() -> x.at(0, 0, -1), "24: what -1");
    Check.argument(() -> x.at(0, 0, 5), "24: what 5");
  }

  private static void between() {
    make(0, 0);
    x.book(0, 0, 2, 1);
    x.book(0, 5, 2, 1);
    x.book(0, 5, 2, 1);
    x.book(0, 99, 1, 1);
    Check.is(3, x.between(0, 0, 99), "25: all of them");
    Check.is(1, x.between(0, 1, 5), "25: by their FIRST");
    Check.is(0, x.between(0, 6, 98), "25: not by another NIGHT");
    Check.is(1, x.between(0, 99, 99), "25: one NIGHT");
    Check.is(1, x.between(1, 0, 5), "25: of its ROOM alone");
    Check.is(0, x.house(10), "25: nothing is counted yet");
    Check.is(-9, x.between(0, 5, 4), "25: from above to");
    Check.is(1, x.house(10), "25: that is counted");
    Check.index(() -> x.between(2, 5, 4), "25: no such ROOM");
    Check.index(() -> x.between(-1, -1, -1), "25: the ROOM is named first");
    Check.argument(() -> x.between(0, -1, 5), "25: from -1");
    Check.argument(() -> x.between(0, 100, 5), "25: from 100");
    Check.argument(() -> x.between(0, 5, -1), "25: to -1");
    Check.argument(() -> x.between(0, 5, 100), "25: to 100");
    Check.is(1, x.house(10), "25: what throws is not counted");
  }

  private static void text() {
    make(0);
    Check.is("....................", x.text(0, 0), "26: nothing");
    x.clean(2);
    for (int i = 0; i < 12; i++) {
      x.queue(1, 0, 1, 1);
      x.cancel(i);
    }
    x.hold(0, 2, 3, 1, 9);
    x.book(0, 98, 2, 1);
    x.close(0, 7, 9);
    x.close(0, 10, 10);
    Check.is("..222::####.........", x.text(0, 0), "26: the last digit of 12, cleaning, CLOSURES");
    Check.is("2::####.............", x.text(0, 4), "26: from another NIGHT on");
    Check.is("..................33", x.text(0, 80), "26: the last 20");
    Check.is(".................33", x.text(0, 81), "26: 19 of them");
    Check.is("3", x.text(0, 99), "26: the last NIGHT");
    Check.index(() -> x.text(1, 0), "26: no such ROOM");
    Check.index(() -> x.text(-1, -1), "26: the ROOM is named first");
    Check.argument(() -> x.text(0, -1), "26: from -1");
    Check.argument(() -> x.text(0, 100), "26: from 100");
  }

  private static void waiting() {
    make();
    Check.is(-9, x.waiting(0), "27: nobody");
    Check.is(1, x.house(10), "27: that is counted");
    x.queue(0, 0, 1, 1);
    x.queue(0, 0, 1, 1);
    x.queue(0, 0, 1, 1);
    x.cancel(1);
    Check.is(0, x.waiting(0), "27: the first one");
    Check.is(2, x.waiting(1), "27: the next one");
    Check.is(-9, x.waiting(2), "27: not so many");
    Check.is(-9, x.waiting(Integer.MAX_VALUE), "27: not so many");
    Check.is(3, x.house(10), "27: that is counted");
    Check.argument(() -> x.waiting(-1), "27: below 0");
    Check.argument(() -> x.waiting(Integer.MIN_VALUE), "27: below 0");
    Check.is(3, x.house(10), "27: what throws is not counted");
  }

  private static void busy() {
    make(0, 0, 1);
    x.clean(1);
    x.book(0, 5, 2, 1);
    x.hold(0, 7, 1, 1, 1);
    x.book(1, 98, 2, 1);
    x.close(2, 5, 9);
    x.queue(0, 5, 1, 1);
    int[] due = {0, 1, 1, 2, 1, 0};
    for (int i = 0; i < due.length; i++) {
      Check.is(due[i], x.busy(4 + i), "28: busy(" + (4 + i) + ")");
    }
    Check.is(1, x.busy(99), "28: the last NIGHT");
    Check.argument(() -> x.busy(-1), "28: night -1");
    Check.argument(() -> x.busy(100), "28: night 100");
  }

  private static void house() {
    make(0, 0);
    x.clean(1);
    x.pass(3);
    x.hold(0, 0, 1, 10, 9);
    x.book(0, 0, 1, 20);
    x.book(0, 2, 1, 40);
    x.queue(0, 0, 1, 80);
    x.queue(0, 0, 1, 160);
    x.cancel(1);
    x.queue(0, 0, 1, 320);
    x.close(0, 50, 60);
    x.close(0, 61, 61);
    x.close(1, 50, 60);
    x.blank();
    x.knock();
    x.knock();
    int[] due = {2, 6, 1, 2, 2, 1, 3, 1, 3, 14, 1, 2, 130, 1};
    for (int what = 0; what < due.length; what++) {
      Check.is(due[what], x.house(what), "29: house(" + what + ")");
    }
    Check.argument(() -> x.house(-1), "29: what -1");
    Check.argument(() -> x.house(14), "29: what 14");
  }

  private static void free() {
    make(0, 1, 0, 2);
    x.clean(1);
    Check.is(15, x.free(3, 0, 1, true), "30: all of them");
    Check.is(5, x.free(0, 0, 1, true), "30: of its KIND");
    x.book(0, 5, 2, 1);
    x.close(3, 4, 4);
    Check.is(7, x.free(3, 3, 1, true), "30: the cleaning MEETS the CLOSURE");
    Check.is(6, x.free(3, 4, 1, true), "30: the cleaning MEETS the STAY");
    Check.is(2, x.free(0, 7, 1, false), "30: the cleaning of the STAY");
    Check.is(0, x.free(0, 8, 20, false), "30: behind its cleaning");
    Check.is(8, x.free(2, 5, 1, true), "30: behind the CLOSURE");
    Check.is(0, x.free(2, 3, 2, true), "30: no ROOM");
    Check.is(-1, x.free(2, 3, 2, false), "30: NONE");
    Check.is(15, x.free(3, 99, 1, true), "30: the last NIGHT");
    int[][] wrong = {{-1, 0, 1}, {4, 0, 1}, {0, -1, 1}, {0, 100, 1}, {0, 0, 0}, {0, 0, 21},
        {0, 99, 2}, {0, 81, 20}, {0, 99, Integer.MAX_VALUE}};
    for (int[] w : wrong) {
      String told = java.util.Arrays.toString(w);
      Check.argument(() -> x.free(w[0], w[1], w[2], true), "30: " + told);
      Check.argument(() -> x.free(w[0], w[1], w[2], false), "30: " + told);
    }
  }

  private static void hinders() {
    make(0, 1);
    x.clean(1);
    x.book(0, 20, 2, 1);
    x.book(0, 10, 2, 1);
    x.close(0, 15, 16);
    Check.is(-1, x.hinders(0, 5, 4), "31: just ahead, with its cleaning");
    Check.is(1, x.hinders(0, 5, 5), "31: by its cleaning");
    Check.is(1, x.hinders(0, 12, 1), "31: by the cleaning of the other one");
    Check.is(1, x.hinders(0, 11, 20), "31: the smallest FIRST of three");
    Check.is(-2, x.hinders(0, 13, 20), "31: a CLOSURE");
    Check.is(-2, x.hinders(0, 14, 1), "31: a CLOSURE, by its cleaning");
    Check.is(0, x.hinders(0, 17, 20), "31: the last one");
    Check.is(-1, x.hinders(0, 23, 20), "31: nobody behind it");
    Check.is(-1, x.hinders(1, 0, 20), "31: nobody in another ROOM");
    x.book(0, 99, 1, 1);
    Check.is(2, x.hinders(0, 99, 1), "31: the last NIGHT");
    Check.is(2, x.hinders(0, 98, 1), "31: the last NIGHT, by its cleaning");
    Check.index(() -> x.hinders(2, 0, 1), "31: no such ROOM");
    Check.index(() -> x.hinders(-1, -1, 0), "31: the ROOM is named first");
    Check.argument(() -> x.hinders(0, -1, 1), "31: first -1");
    Check.argument(() -> x.hinders(0, 100, 1), "31: first 100");
    Check.argument(() -> x.hinders(0, 0, 0), "31: length 0");
    Check.argument(() -> x.hinders(0, 0, 21), "31: length 21");
    Check.argument(() -> x.hinders(0, 99, 2), "31: LAST 100");
  }

  private static void dealing() {
    make(0, 0, 0);
    Check.is(0, x.dealing(0), "32: no ROOMS");
    Check.is(0, x.dealing(1), "32: none is BOOKED");
    Check.is(-1, x.dealing(2), "32: no NIGHT");
    x.clean(2);
    x.book(0, 99, 1, 1);
    x.queue(0, 99, 1, 1);
    x.close(1, 99, 99);
    Check.is(1, x.dealing(0), "32: one ROOM");
    Check.is(1, x.dealing(1), "32: those WAITING and CLOSURES aside");
    Check.is(99, x.dealing(2), "32: the last NIGHT");
    x.book(0, 0, 3, 1);
    x.book(0, 4, 3, 1);
    x.book(0, 5, 1, 1);
    x.cancel(1);
    Check.is(2, x.dealing(0), "32: two ROOMS");
    Check.is(2, x.dealing(1), "32: two at most");
    Check.is(4, x.dealing(2), "32: by the cleaning");
    x.book(0, 0, 2, 1);
    x.book(0, 0, 2, 1);
    x.book(0, 0, 2, 1);
    Check.is(3, x.dealing(1), "32: three");
    Check.is(0, x.dealing(2), "32: the first NIGHT of all");
    make(0, 0);
    x.book(0, 5, 1, 1);
    x.book(0, 0, 1, 1);
    x.book(0, 0, 1, 1);
    Check.is(2, x.dealing(1), "32: two in the first NIGHT");
    Check.is(0, x.dealing(2), "32: the first NIGHT");
    Check.argument(() -> x.dealing(-1), "32: what -1");
    Check.argument(() -> x.dealing(3), "32: what 3");
  }

  private static void dealt() {
    make(0, 1, 2);
    x.clean(1);
    x.book(2, 0, 2, 1);
    x.book(1, 0, 2, 1);
    x.book(1, 3, 1, 1);
    x.book(2, 3, 1, 1);
    x.hold(0, 2, 3, 1, 1);
    x.queue(0, 2, 3, 1);
    int[] due = {0, 1, 0, 1, 2, -1};
    for (int stay = 0; stay < due.length; stay++) {
      Check.is(due[stay], x.dealt(stay), "33: dealt(" + stay + ")");
    }
    x.pass(1);
    Check.is(-1, x.dealt(4), "33: GONE");
    Check.index(() -> x.dealt(-1), "33: no such STAY");
    Check.index(() -> x.dealt(6), "33: no such STAY");
  }
}
