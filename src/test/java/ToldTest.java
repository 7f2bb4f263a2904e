import java.util.ArrayList;
import java.util.Arrays;
import java.util.List;

/** Section 5: what is TOLD (also such as told NONE), what is not, and undo(), step by step. */
public final class ToldTest {
  private static Used x;

  private ToldTest() {
  }

  public static void main(String[] args) {
    eachIsTold();
    eachIsToldThatToldNone();
    asksAreNotTold();
    whatThrowsIsNotTold();
    undoIsNotTold();
    undoOfEach();
    undoOfWhatToldNone();
    undoOfWhatTheListDid();
    undoKeepsNines();
    undoKeepsKnocks();
    undoToTheBeginning();
    undoStepByStep();
    undoAndOtherwise();
    undoOfAsManyAsThereAre();
    soundAllTheWay();
    soundWithAllRooms();
    Check.end();
  }

  private static void make(int... kinds) {
    x = new Used();
    for (int kind : kinds) {
      x.room(kind);
    }
  }

  private static void answers(Object due, String sentence, String name, int... a) {
    Sentence.answers(x, due, sentence, name, a);
  }

  private static void asked(Object due, String sentence, String name, int... a) {
    Sentence.asked(x, due, sentence, name, a);
  }

  /** The call tells that and is TOLD; undone, all is as it was. */
  private static void told(Object due, String name, int... a) {
    String what = name + Arrays.toString(a);
    String before = x.snapshot();
    int many = x.house(9);
    answers(due, "29: TOLD", name, a);
    Check.is(many + 1, x.house(9), "29: TOLD is one more by " + what);
    String behind = x.snapshot();
    answers(many, "18: how many are TOLD then", "undo");
    Check.is(before, x.snapshot(), "18: undone: " + what);
    answers(due, "18: called again", name, a);
    Check.is(behind, x.snapshot(), "18: called again: " + what);
  }

  // ---- what is TOLD

  private static void eachIsTold() {
    make();
    told(0, "room", 0);
    told(1, "room", 0);
    told(2, "room", 1);
    told(1, "close", 0, 90, 95);
    told(6, "open", 0, 90);
    told(0, "clean", 1);
    told(100, "base", 0, 70);
    told(0, "book", 0, 10, 3, 5);
    told(1, "hold", 0, 10, 3, 5, 9);
    told(2, "queue", 0, 12, 3, 5);
    told(3, "group", 0, 20, 3, 2, 5);
    told(9, "pay", 1);
    told(2, "shorten", 0, 1);
    told(3, "lengthen", 0, 1);
    told(1, "cancel", 1);
    told(5, "book", 0, 40, 1, 1);
    told(0, "move", 5, 1);
    told(1, "redeal");
    told(6, "hold", 0, 50, 1, 1, 2);
    told(1, "pass", 2);
  }

  /** Also such as told NONE, 0, or what it was before. */
  private static void eachIsToldThatToldNone() {
    make(0, 1);
    told(1, "close", 0, 50, 59);
    told(-1, "close", 0, 59, 60);
    told(-1, "open", 0, 51);
    told(-1, "open", 1, 50);
    told(0, "clean", 0);
    told(100, "base", 0, 100);
    told(100, "base", 0, 100);
    told(-1, "book", 0, 50, 1, 1);
    told(-1, "hold", 0, 59, 1, 1, 1);
    told(-1, "group", 0, 0, 1, 2, 1);
    told(0, "redeal");
    told(0, "pass", 1);
    told(0, "book", 0, 0, 2, 1);
    told(1, "book", 0, 2, 2, 1);
    told(-1, "lengthen", 0, 1);
    told(-1, "move", 0, 0);
    told(-1, "move", 0, 1);
    told(0, "redeal");
    told(0, "pass", 99);
    told(0, "cancel", 0);
    told(2, "book", 3, 0, 1, 1);
    told(0, "move", 2, 1);
    told(3, "book", 0, 0, 2, 1);
    told(-1, "redeal");
    told(4, "queue", 2, 0, 1, 1);
    told(-1, "cancel", 4);
  }

  /** All others are not. */
  private static void asksAreNotTold() {
    make(0);
    x.book(0, 0, 1, 1);
    x.queue(0, 0, 1, 1);
    for (String name : Runs.ASKED) {
      if (!name.equals("undo")) {
        x.tell(name, given(name));
        asked(3, "29: " + name + "() is not TOLD", "house", 9);
      }
    }
    answers(2, "18: the last one that was TOLD is off the row", "undo");
    asked(1, "18: queue() was the last one", "house", 1);
  }

  private static int[] given(String name) {
    int[] a = new int[Runs.arity(name)];
    if (name.equals("free") || name.equals("hinders") || name.equals("moves")
        || name.equals("price")) {
      a[2] = 1;
    }
    return a;
  }

  /** That threw nothing. */
  private static void whatThrowsIsNotTold() {
    make(0, 0, 0, 0, 0, 0);
    x.book(0, 0, 1, 1);
    x.cancel(0);
    x.book(0, 0, 1, 1);
    int[][] wrong = {{0}, {6, 0, 0}, {0, 100}, {1}, {3, 0}, {0}, {0, 0, 21, 1}, {0, 0, 1, 1, 0},
        {0, 0, 1, 0}, {0, 0, 1, 5, 1}, {0}, {0}, {1, 1}, {0, 1}, {0, 0}};
    for (int i = 0; i < wrong.length; i++) {
      String got = x.answer(Runs.TOLD[i], wrong[i]);
      Check.is(true, got.startsWith("throws."), "29: " + Runs.TOLD[i] + "() throws");
      asked(9, "29: " + Runs.TOLD[i] + "() that threw is not TOLD", "house", 9);
    }
    answers(8, "18: the last one that threw nothing", "undo");
    asked(1, "18: book() was the last one", "house", 1);
  }

  /** Undo itself is not on the row: it is not undone by the next one. */
  private static void undoIsNotTold() {
    make(0, 1, 2);
    answers(2, "18: the last one", "undo");
    answers(1, "18: the one before", "undo");
    asked(1, "18: one ROOM is left", "house", 0);
    asked(0, "18: the first one", "ofRoom", 0, 0);
    answers(1, "2: the second ROOM again", "room", 2);
    asked(2, "29: two are TOLD", "house", 9);
  }

  // ---- undo()

  private static void undoOfEach() {
    make(0, 0, 1);
    x.clean(1);
    x.close(2, 40, 49);
    x.hold(0, 10, 3, 5, 9);
    x.book(0, 10, 3, 6);
    x.queue(3, 10, 3, 7);
    x.queue(0, 12, 3, 8);
    x.book(0, 30, 2, 9);
    told(3, "room", 0);
    told(10, "open", 2, 40);
    told(1, "close", 1, 40, 49);
    told(100, "base", 1, 499);
    told(1, "pass", 9);
    told(2, "shorten", 1, 1);
    told(3, "lengthen", 1, 1);
    told(0, "move", 4, 1);
    told(1, "cancel", 1);
    told(5, "group", 3, 60, 20, 4, 500);
    told(9, "hold", 3, 98, 2, 1, 99);
    told(99, "pay", 9);
    told(3, "redeal");
  }

  private static void undoOfWhatToldNone() {
    make(0);
    x.book(0, 10, 3, 5);
    answers(-1, "8: no ROOM", "book", 0, 10, 3, 5);
    answers(-1, "8: no ROOM", "book", 0, 10, 3, 5);
    String all = Snapshot.besidesTold(x.snapshot());
    answers(3, "18: that alone is off the row", "undo");
    Check.is(all, Snapshot.besidesTold(x.snapshot()), "18: nothing else changes");
    answers(2, "18: that alone is off the row", "undo");
    Check.is(all, Snapshot.besidesTold(x.snapshot()), "18: nothing else changes");
    answers(1, "18: the one that was kept", "undo");
    asked(0, "18: it is not there any more", "house", 1);
  }

  /** Without the call the others do otherwise. */
  private static void undoOfWhatTheListDid() {
    make(0);
    x.book(0, 10, 3, 5);
    x.queue(0, 10, 2, 7);
    x.queue(0, 11, 2, 8);
    answers(0, "13: one goes", "cancel", 0);
    answers(0, "13: the next one goes", "cancel", 1);
    asked(1, "13: the last one came", "ofStay", 2, 5);
    asked(2, "29: two came from the list", "house", 13);
    answers(5, "18: undone", "undo");
    asked(2, "18: it waits again", "ofStay", 2, 5);
    asked(1, "18: the other one is back", "ofStay", 1, 5);
    asked(1, "29: one came from the list", "house", 13);
    answers(4, "18: undone", "undo");
    asked(0, "29: nobody came from the list", "house", 13);
    asked(1, "27: the list is as it was", "waiting", 0);
    asked(2, "27: the list is as it was", "waiting", 1);
  }

  private static void undoKeepsNines() {
    make(0);
    x.queue(0, 0, 1, 1);
    x.blank();
    x.tear();
    x.waiting(1);
    x.between(0, 1, 0);
    asked(4, "29: four times", "house", 10);
    x.undo();
    asked(4, "29: how often -9 was told stays", "house", 10);
    answers(-9, "27: the list is undone", "waiting", 0);
    x.undo();
    asked(5, "29: it stays, without anything TOLD", "house", 10);
    answers(-9, "19: once more", "blank");
    asked(6, "29: six times", "house", 10);
  }

  private static void undoKeepsKnocks() {
    make(0);
    answers(1, "21: how often ever, with this", "knock");
    answers(2, "21: how often ever, with this", "knock");
    x.undo();
    asked(2, "29: knocks stay", "house", 11);
    answers(3, "21: how often ever, with this", "knock");
    asked(0, "29: a knock is no -9", "house", 10);
  }

  private static void undoToTheBeginning() {
    make();
    String empty = Snapshot.besidesTold(x.snapshot());
    x.room(0);
    x.room(1);
    x.clean(2);
    x.base(0, 1);
    x.base(1, 2);
    x.base(2, 3);
    x.close(0, 0, 50);
    x.pass(99);
    x.hold(3, 60, 20, 500, 5);
    x.queue(0, 60, 20, 500);
    for (int left = x.house(9) - 1; left >= 0; left--) {
      answers(left, "18: how many are TOLD then", "undo");
    }
    Check.is(empty, Snapshot.besidesTold(x.snapshot()), "18: as a new object");
    asked(100, "18: BASE as at first", "price", 0, 0, 1);
    asked(0, "18: HOUR as at first", "house", 6);
    asked(0, "18: CLEAN as at first", "house", 7);
    answers(0, "18: it can be used again", "room", 2);
    asked("....................", "18: the ROOM is empty", "text", 0, 40);
    answers(1, "18: no CLOSURE is left", "close", 0, 0, 99);
  }

  /** Each step back is the house that was there. */
  private static void undoStepByStep() {
    make();
    List<String> houses = new ArrayList<>();
    int[][] kinds = {{0, 0, 3}, {1, 3, 5}, {2, 8, 2}, {3, 4, 6}};
    for (int i = 0; i < 24; i++) {
      houses.add(x.snapshot());
      int[] k = kinds[i % 4];
      switch (i % 6) {
        case 0: x.room(i / 6 % 3); break;
        case 1: x.hold(k[0], k[1], k[2], 5 + i, 3 + i); break;
        case 2: x.queue(k[0], k[1] + 1, k[2], 5 + i); break;
        case 3: x.book(3, k[1], 3, 5 + i); break;
        case 4: x.cancel(i / 6); break;
        default: x.pass(2); break;
      }
    }
    for (int i = 23; i >= 0; i--) {
      answers(i, "18: a step back", "undo");
      Check.is(houses.get(i), x.snapshot(), "18: the house that was there, step " + i);
    }
  }

  /** Behind undo() another call may follow, with the same numbers. */
  private static void undoAndOtherwise() {
    make(0);
    x.book(0, 10, 9, 5);
    x.undo();
    answers(0, "18: the same number", "hold", 0, 12, 2, 6, 9);
    asked(12, "18: another FIRST", "ofStay", 0, 1);
    asked(0, "18: HELD", "ofStay", 0, 5);
    asked("............00......", "18: nothing of the other one is left", "text", 0, 0);
    x.undo();
    answers(0, "18: the same number", "queue", 1, 50, 1, 1);
    asked(-1, "18: it is not HELD", "ofStay", 0, 7);
    asked(-1, "18: it is in no ROOM", "ofStay", 0, 6);
    asked("....................", "18: nothing is left", "text", 0, 0);
    x.close(0, 5, 9);
    x.undo();
    answers(1, "3: the first CLOSURE again", "close", 0, 4, 5);
    asked("....##..............", "18: nothing of the other one is left", "text", 0, 0);
  }

  private static void undoOfAsManyAsThereAre() {
    make();
    for (int i = 0; i < 160; i++) {
      x.base(i % 3, i);
    }
    for (int i = 159; i >= 0; i--) {
      answers(i, "18: so many are TOLD then", "undo");
      answers(i < 3 ? 100 : i - 3, "18: BASE before that", "price", i % 3, 0, 1);
    }
    asked(0, "29: nothing is TOLD any more", "house", 9);
  }

  // ---- promise 39

  private static void soundAllTheWay() {
    make();
    asked("true", "39: a new object", "isSound");
    x.room(1);
    asked("true", "39: one ROOM", "isSound");
    x.queue(1, 99, 1, 1);
    asked("true", "39: one WAITING", "isSound");
    x.close(0, 98, 98);
    asked("true", "39: a CLOSURE", "isSound");
    x.clean(2);
    asked("true", "39: CLEAN", "isSound");
    x.book(1, 96, 1, 1);
    x.book(1, 95, 1, 1);
    x.room(0);
    asked("true", "39: the list was looked after", "isSound");
    x.pass(5);
    x.blank();
    x.knock();
    asked("true", "39: -9 and knocks aside", "isSound");
    while (x.house(9) > 0) {
      x.undo();
      asked("true", "39: all the way back", "isSound");
    }
  }

  /** Two MEET only if they are in the same ROOM. */
  private static void soundWithAllRooms() {
    make(0, 1, 2, 0, 1, 2);
    x.clean(2);
    for (int i = 0; i < 20; i++) {
      x.book(3, i, 20, 1);
      x.queue(i % 4, i, 20, i + 1);
      x.close(i % 6, 99 - i / 2, 99 - i / 2);
      asked("true", "39: as it fills", "isSound");
    }
    x.redeal();
    asked("true", "39: full", "isSound");
    x.pass(1);
    x.cancel(3);
    asked("true", "39: the list was looked after", "isSound");
  }
}
