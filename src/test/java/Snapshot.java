/** All that the face tells of an object, as one text. The object itself is not asked. */
final class Snapshot {
  private static final int TOLD = 9;
  private static final String TOLD_BY = "told ";

  private final Asker x;
  private final StringBuilder text = new StringBuilder();

  private Snapshot(Used used) {
    x = new Asker(used);
  }

  static String of(Used used) {
    Snapshot snapshot = new Snapshot(used);
    snapshot.addHouse();
    snapshot.addList();
    for (int room = 0; room < snapshot.x.number("house", 0); room++) {
      snapshot.addRoom(room);
    }
    for (int stay = 0; stay < snapshot.x.number("house", 1); stay++) {
      snapshot.addStay(stay);
    }
    snapshot.addNights();
    snapshot.end(TOLD_BY + snapshot.x.tell("house", TOLD));
    return snapshot.text.toString();
  }

  /** A call that told NONE is TOLD and changes nothing else. */
  static String besidesTold(String snapshot) {
    return snapshot.substring(0, snapshot.lastIndexOf(TOLD_BY));
  }

  private void add(String name, int... a) {
    text.append(x.tell(name, a)).append(' ');
  }

  private void end(String what) {
    text.append(what).append('\n');
  }

  private void addHouse() {
    for (int what = 0; what <= 13; what++) {
      if (what != TOLD) {
        add("house", what);
      }
    }
    for (int what = 0; what <= 2; what++) {
      add("dealing", what);
    }
    add("isSound");
    end("house");
  }

  private void addList() {
    for (int nth = 0; nth < x.number("house", 4); nth++) {
      add("waiting", nth);
    }
    for (int what = 0; what <= 3; what++) {
      add("oneRoom", what);
    }
    add("chosen", 0);
    add("chosen", 1);
    end("list");
  }

  private void addRoom(int room) {
    for (int what = 0; what <= 6; what++) {
      add("ofRoom", room, what);
    }
    for (int from = 0; from <= 80; from += 20) {
      add("text", room, from);
    }
    for (int night = 9; night <= 99; night += 10) {
      for (int what = 0; what <= 4; what++) {
        add("at", room, night, what);
      }
      add("between", room, 0, night);
      add("hinders", room, night, 1);
    }
    end("room " + room);
  }

  private void addStay(int stay) {
    for (int what = 0; what <= 8; what++) {
      add("ofStay", stay, what);
    }
    add("dealt", stay);
    end("stay " + stay);
  }

  private void addNights() {
    for (int night = 0; night <= 99; night++) {
      add("busy", night);
    }
    for (int night = 0; night <= 90; night += 10) {
      for (int kind = 0; kind <= 3; kind++) {
        add("free", kind, night, 1, 1);
        add("moves", kind, night, 9);
      }
      for (int kind = 0; kind <= 2; kind++) {
        add("price", kind, night, 10);
      }
      add("odds", night, 2, 5);
    }
    end("nights");
  }
}
