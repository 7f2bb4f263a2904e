import java.lang.reflect.Array;
import java.lang.reflect.Field;
import java.util.List;

/**
 * Promise 39 from its other side: no call ever makes a house that is not SOUND, so the test reaches
 * behind the face and spoils one thing at a time. How the house is held is free: if it is held
 * otherwise than this test knows, there is nothing that it could spoil, and it says so.
 */
public final class SoundTest {
  private static Used x;

  private SoundTest() {
  }

  private interface Spoiling {
    void spoil(Object house) throws ReflectiveOperationException;
  }

  public static void main(String[] args) throws ReflectiveOperationException {
    try {
      spoilTheHouse();
      spoilBothHouses();
    } catch (NoSuchFieldException e) {
      System.out.println("not tried any more, the house is held otherwise: " + e.getMessage());
      return;
    }
    Check.end();
  }

  private static void spoilTheHouse() throws ReflectiveOperationException {
    spoilt("two STAYS MEET", h -> set(stay(h, 1), "room", 0));
    spoilt("they MEET by cleaning alone", h -> {
      set(stay(h, 3), "room", 0);
      set(stay(h, 3), "first", 3);
    });
    spoilt("a STAY MEETS a CLOSURE", h -> set(stay(h, 0), "first", 20));
    spoilt("two CLOSURES MEET", h -> set(room(h, 0), "closedTo", 20, 30));
    spoilt("a STAY is in a ROOM of another KIND", h -> set(stay(h, 0), "kind", 2));
    spoilt("a STAY in a ROOM is WAITING", h -> set(stay(h, 0), "state", 2));
    spoilt("a ROOM more", h -> set(h, "roomCount", 3));
    spoilt("another HOUR", h -> set(h, "hour", 7));
    spoilt("one more got a ROOM from the list", h -> set(h, "gotFromList", 5));
    spoilt("another WORTH", h -> set(stay(h, 0), "worth", 9));
    spoilt("another text", h -> set(room(h, 0), "takers", 50, 0));
    spoilt("another text of the first NIGHT", h -> set(room(h, 0), "takers", 0, -1));
    spoilt("another text of the last NIGHT", h -> set(room(h, 1), "takers", 99, -2));
    spoilt("a CLOSURE more is counted", h -> set(room(h, 1), "closures", 1));
  }

  /** The house and the one in which all is called again are spoilt alike: they look the same. */
  private static void spoilBothHouses() throws ReflectiveOperationException {
    alike(false, "they MEET by their FIRST alone", h -> {
      set(stay(h, 3), "room", 0);
      set(stay(h, 3), "first", 2);
    });
    alike(false, "they MEET by cleaning alone", h -> {
      set(stay(h, 3), "room", 0);
      set(stay(h, 3), "first", 3);
    });
    alike(true, "they are just side by side", h -> {
      set(stay(h, 3), "room", 0);
      set(stay(h, 3), "first", 4);
    });
    alike(false, "a CLOSURE of the first NIGHT MEETS one",
        h -> set(room(h, 0), "closedTo", 0, 0));
    alike(false, "a CLOSURE MEETS one by its cleaning", h -> set(room(h, 0), "closedTo", 3, 3));
    alike(true, "a CLOSURE is just behind the cleaning", h -> set(room(h, 0), "closedTo", 4, 4));
    alike(false, "a CLOSURE MEETS another one", h -> set(room(h, 0), "closedTo", 23, 25));
    alike(false, "a STAY is in a ROOM of another KIND", h -> set(stay(h, 0), "kind", 1));
  }

  private static void make() {
    x = new Used();
    x.room(0);
    x.room(0);
    x.clean(1);
    x.book(0, 0, 3, 5);
    x.book(0, 1, 3, 5);
    x.queue(0, 0, 1, 5);
    x.book(0, 6, 2, 5);
    x.close(0, 20, 22);
    x.close(0, 25, 26);
  }

  private static void spoilt(String what, Spoiling spoiling) throws ReflectiveOperationException {
    make();
    Check.is(true, x.isSound(), "39: SOUND ahead of this: " + what);
    spoiling.spoil(get(x.object, "house"));
    Check.is(false, x.isSound(), "39: " + what);
    List<Integer> row = Words.numbers(x);
    Check.is(0, row.get(row.size() - 1), "40: 0, not SOUND: " + what);
    Check.is(Words.whole(row).longValue(), x.digest(), "40: the checksum: " + what);
  }

  private static void alike(boolean due, String what, Spoiling spoiling)
      throws ReflectiveOperationException {
    make();
    Check.is(true, x.isSound(), "39: SOUND ahead of this: " + what);
    spoiling.spoil(get(x.object, "house"));
    spoiling.spoil(get(x.object, "mirror"));
    Check.is(due, x.isSound(), "39: " + what);
  }

  private static Object get(Object of, String field) throws ReflectiveOperationException {
    Field f = of.getClass().getDeclaredField(field);
    f.setAccessible(true);
    return f.get(of);
  }

  private static void set(Object of, String field, int value) throws ReflectiveOperationException {
    Field f = of.getClass().getDeclaredField(field);
    f.setAccessible(true);
    f.setInt(of, value);
  }

  private static void set(Object of, String row, int place, int value)
      throws ReflectiveOperationException {
    Array.setInt(get(of, row), place, value);
  }

  private static Object room(Object house, int number) throws ReflectiveOperationException {
    return Array.get(get(house, "rooms"), number);
  }

  private static Object stay(Object house, int number) throws ReflectiveOperationException {
    return ((List<?>) get(house, "stays")).get(number);
  }
}
