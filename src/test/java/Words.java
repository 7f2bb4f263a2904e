import java.math.BigInteger;
import java.util.ArrayList;
import java.util.List;

/** The checksum of promise 40 by its words, over what else the object answers. */
final class Words {
  private final Asked x;
  private final List<Integer> row = new ArrayList<>();

  private Words(Asked x) {
    this.x = x;
  }

  /** The numbers that the checksum goes through, in their order. */
  static List<Integer> numbers(Asked x) {
    Words words = new Words(x);
    words.addAll(0, 13, "house");
    words.addRooms();
    words.addStays();
    words.addAll(0, 30, "busy");
    words.addAll(0, 2, "dealing");
    words.add("free", 3, 10, 5, 1);
    words.add("free", 3, 10, 5, 0);
    words.add("moves", 3, 10, 5);
    words.add("price", 0, 10, 5);
    words.add("odds", 10, 1, 5);
    words.addAll(0, 3, "oneRoom");
    words.row.add(x.tell("chosen", 0).length());
    words.row.add(x.tell("chosen", 1).length());
    words.row.add(x.tell("isSound").equals("true") ? 1 : 0);
    return words.row;
  }

  /** The checksum without wrapping around: that comes last. */
  static BigInteger whole(List<Integer> row) {
    BigInteger d = BigInteger.valueOf(7193);
    for (int v : row) {
      d = d.multiply(BigInteger.valueOf(31)).add(BigInteger.valueOf(v));
    }
    return d;
  }

  private void add(String name, int... a) {
    row.add(x.number(name, a));
  }

  private void addAll(int least, int most, String name) {
    for (int i = least; i <= most; i++) {
      add(name, i);
    }
  }

  private void addRooms() {
    int rooms = row.get(0);
    for (int room = 0; room < rooms; room++) {
      for (int what = 0; what <= 6; what++) {
        add("ofRoom", room, what);
      }
      for (int night : new int[] {0, 10, 50}) {
        for (int what = 0; what <= 4; what++) {
          add("at", room, night, what);
        }
      }
    }
  }

  private void addStays() {
    int stays = row.get(1);
    for (int stay = stays - 1; stay >= 0 && stay >= stays - 10; stay--) {
      for (int what = 0; what <= 8; what++) {
        add("ofStay", stay, what);
      }
      add("dealt", stay);
    }
  }
}
