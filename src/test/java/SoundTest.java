import java.lang.reflect.Array;
import java.lang.reflect.Field;
import java.util.List;

/**
 * Promise 39 from its other side: no call ever makes a house that is not SOUND, so the test reaches
 * behind the face and spoils one thing at a time.
 */
public final class SoundTest {
  private static Bookingstree x;

  private SoundTest() {
  }

  public static void main(String[] args) throws ReflectiveOperationException {
    spoilt("two STAYS MEET", () -> set(stay(1), "room", 0));
    spoilt("they MEET by cleaning alone", () -> {
      set(stay(3), "room", 0);
      set(stay(3), "first", 3);
    });
    spoilt("a STAY MEETS a CLOSURE", () -> set(stay(0), "first", 20));
    spoilt("two CLOSURES MEET", () -> set(room(0), "closedTo", 20, 30));
    spoilt("a STAY is in a ROOM of another KIND", () -> set(stay(0), "kind", 2));
    spoilt("a STAY in a ROOM is WAITING", () -> set(stay(0), "state", 2));
    spoilt("a ROOM more", () -> set(house(), "roomCount", 3));
    spoilt("another HOUR", () -> set(house(), "hour", 7));
    spoilt("one more got a ROOM from the list", () -> set(house(), "gotFromList", 5));
    spoilt("another WORTH", () -> set(stay(0), "worth", 9));
    spoilt("another text", () -> set(room(0), "takers", 50, 0));
    spoilt("another text of the first NIGHT", () -> set(room(0), "takers", 0, -1));
    spoilt("another text of the last NIGHT", () -> set(room(1), "takers", 99, -2));
    spoilt("a CLOSURE more is counted", () -> set(room(1), "closures", 1));
    Check.end();
  }

  private interface Spoiling {
    void run() throws ReflectiveOperationException;
  }

  private static void spoilt(String what, Spoiling spoiling) throws ReflectiveOperationException {
    x = new Bookingstree();
    x.room(0);
    x.room(0);
    x.clean(1);
    x.book(0, 0, 3, 5);
    x.book(0, 1, 3, 5);
    x.queue(0, 0, 1, 5);
    x.book(0, 6, 2, 5);
    x.close(0, 20, 22);
    x.close(0, 25, 26);
    Check.is(true, x.isSound(), "39: SOUND ahead of this: " + what);
    spoiling.run();
    Check.is(false, x.isSound(), "39: " + what);
  }

  private static Object get(Object of, String field) throws ReflectiveOperationException {
    Field f = of.getClass().getDeclaredField(field);
    f.setAccessible(true);
    return f.get(of);
  }

  private static void set(Object of, String field, int value) throws ReflectiveOperationException {
    Field f = of.getClass().getDeclaredField(field);
    f.setAccessible(true);
    f.setInt(of, value);
  }

  private static void set(Object of, String row, int place, int value)
      throws ReflectiveOperationException {
    Array.setInt(get(of, row), place, value);
  }

  private static Object house() throws ReflectiveOperationException {
    return get(x, "house");
  }

  private static Object room(int number) throws ReflectiveOperationException {
    return Array.get(get(house(), "rooms"), number);
  }

  private static Object stay(int number) throws ReflectiveOperationException {
    return ((List<?>) get(house(), "stays")).get(number);
  }
}
