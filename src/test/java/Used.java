import java.util.ArrayList;
import java.util.List;

/**
 * An object of Bookingstree with the row of all calls that were made of it. It is used for at most
 * 512 calls, as the document says; who wants to know more than is left brings other objects to the
 * same state (Asker).
 */
final class Used implements Asked {
  static final int MOST_CALLS = 512;

  final Bookingstree object = new Bookingstree();
  private final List<String> names = new ArrayList<>();
  private final List<int[]> given = new ArrayList<>();
  private String snapshot = "";
  private int snapshotAt = -1;

  int calls() {
    return names.size();
  }

  /** Another object, of which the same calls were made. */
  Bookingstree again() {
    Bookingstree other = new Bookingstree();
    for (int i = 0; i < names.size(); i++) {
      Runs.answer(other, names.get(i), given.get(i));
    }
    return other;
  }

  /** All that the face tells of it by now. */
  String snapshot() {
    if (snapshotAt != calls()) {
      snapshot = Snapshot.of(this);
      snapshotAt = calls();
    }
    return snapshot;
  }

  private void count(String name, int... a) {
    if (calls() >= MOST_CALLS) {
      throw new AssertionError("the test calls more than 512 times");
    }
    names.add(name);
    given.add(a.clone());
  }

  @Override
  public String tell(String name, int... a) {
    count(name, a);
    return Runs.tell(object, name, a);
  }

  /** The answer as a text; what a call throws is an answer too. */
  String answer(String name, int... a) {
    count(name, a);
    return Runs.answer(object, name, a);
  }

  int room(int kind) {
    count("room", kind);
    return object.room(kind);
  }

  int close(int room, int from, int to) {
    count("close", room, from, to);
    return object.close(room, from, to);
  }

  int open(int room, int from) {
    count("open", room, from);
    return object.open(room, from);
  }

  int clean(int nights) {
    count("clean", nights);
    return object.clean(nights);
  }

  int base(int kind, int base) {
    count("base", kind, base);
    return object.base(kind, base);
  }

  int pass(int hours) {
    count("pass", hours);
    return object.pass(hours);
  }

  int book(int kind, int first, int length, int worth) {
    count("book", kind, first, length, worth);
    return object.book(kind, first, length, worth);
  }

  int hold(int kind, int first, int length, int worth, int hours) {
    count("hold", kind, first, length, worth, hours);
    return object.hold(kind, first, length, worth, hours);
  }

  int queue(int kind, int first, int length, int worth) {
    count("queue", kind, first, length, worth);
    return object.queue(kind, first, length, worth);
  }

  int group(int kind, int first, int length, int many, int worth) {
    count("group", kind, first, length, many, worth);
    return object.group(kind, first, length, many, worth);
  }

  int pay(int stay) {
    count("pay", stay);
    return object.pay(stay);
  }

  int cancel(int stay) {
    count("cancel", stay);
    return object.cancel(stay);
  }

  int shorten(int stay, int nights) {
    count("shorten", stay, nights);
    return object.shorten(stay, nights);
  }

  int lengthen(int stay, int nights) {
    count("lengthen", stay, nights);
    return object.lengthen(stay, nights);
  }

  int move(int stay, int room) {
    count("move", stay, room);
    return object.move(stay, room);
  }

  int redeal() {
    count("redeal");
    return object.redeal();
  }

  int undo() {
    count("undo");
    return object.undo();
  }

  int blank() {
    count("blank");
    return object.blank();
  }

  int tear() {
    count("tear");
    return object.tear();
  }

  int knock() {
    count("knock");
    return object.knock();
  }

  int ofStay(int stay, int what) {
    count("ofStay", stay, what);
    return object.ofStay(stay, what);
  }

  int ofRoom(int room, int what) {
    count("ofRoom", room, what);
    return object.ofRoom(room, what);
  }

  int at(int room, int night, int what) {
    count("at", room, night, what);
    return object.at(room, night, what);
  }

  int between(int room, int from, int to) {
    count("between", room, from, to);
    return object.between(room, from, to);
  }

  String text(int room, int from) {
    count("text", room, from);
    return object.text(room, from);
  }

  int waiting(int nth) {
    count("waiting", nth);
    return object.waiting(nth);
  }

  int busy(int night) {
    count("busy", night);
    return object.busy(night);
  }

  int house(int what) {
    count("house", what);
    return object.house(what);
  }

  int free(int kind, int first, int length, boolean isSet) {
    count("free", kind, first, length, isSet ? 1 : 0);
    return object.free(kind, first, length, isSet);
  }

  int hinders(int room, int first, int length) {
    count("hinders", room, first, length);
    return object.hinders(room, first, length);
  }

  int dealing(int what) {
    count("dealing", what);
    return object.dealing(what);
  }

  int dealt(int stay) {
    count("dealt", stay);
    return object.dealt(stay);
  }

  int moves(int kind, int first, int length) {
    count("moves", kind, first, length);
    return object.moves(kind, first, length);
  }

  int price(int kind, int first, int length) {
    count("price", kind, first, length);
    return object.price(kind, first, length);
  }

  int odds(int night, int more, int chance) {
    count("odds", night, more, chance);
    return object.odds(night, more, chance);
  }

  int oneRoom(int what) {
    count("oneRoom", what);
    return object.oneRoom(what);
  }

  String chosen(boolean isWorth) {
    count("chosen", isWorth ? 1 : 0);
    return object.chosen(isWorth);
  }

  boolean isSound() {
    count("isSound");
    return object.isSound();
  }

  long digest() {
    count("digest");
    return object.digest();
  }
}
