import java.util.ArrayList;
import java.util.Arrays;
import java.util.Collections;
import java.util.Comparator;
import java.util.HashMap;
import java.util.List;
import java.util.Map;
import java.util.Set;
import java.util.TreeMap;
import java.util.TreeSet;

/**
 * The document once more, written by its words alone and as slowly as these are: sets of nights
 * instead of rows, every choice tried instead of the clever one. The tests ask it and Bookingstree
 * the same and compare.
 */
final class PlainHouse {
  static final String ARGUMENT = "throws.IllegalArgumentException";
  static final String STATE = "throws.IllegalStateException";
  static final String INDEX = "throws.IndexOutOfBoundsException";

  private static final class Guest {
    int number;
    int kind;
    int first;
    int length;
    int worth;
    /** 0 held, 1 paid, 2 waiting, 3 gone. */
    int state;
    int room = -1;
    int till;

    int last() {
      return first + length - 1;
    }

    boolean isBooked() {
      return state < 2;
    }
  }

  private static final class Shut {
    int room;
    int from;
    int to;
  }

  private static final class Refused extends RuntimeException {
    private static final long serialVersionUID = 1L;

    Refused(String name) {
      super(name);
    }
  }

  private final List<Integer> rooms = new ArrayList<>();
  private final List<Guest> guests = new ArrayList<>();
  private final List<Guest> list = new ArrayList<>();
  private final List<Shut> shuts = new ArrayList<>();
  private int[] bases = {100, 100, 100};
  private int clean = 0;
  private int hour = 0;
  private int gotFromList = 0;
  private int nines = 0;
  private int knocks = 0;
  private List<Runnable> toldCalls = new ArrayList<>();

  /** The answer as a text; what a call throws is an answer too. */
  String answer(String name, int[] a) {
    try {
      return perform(name, a);
    } catch (Refused e) {
      return e.getMessage();
    }
  }

  private String perform(String name, int[] a) {
    switch (name) {
      case "room": return "" + room(a[0]);
      case "close": return "" + close(a[0], a[1], a[2]);
      case "open": return "" + open(a[0], a[1]);
      case "clean": return "" + clean(a[0]);
      case "base": return "" + base(a[0], a[1]);
      case "pass": return "" + pass(a[0]);
      case "book": return "" + book(a[0], a[1], a[2], a[3]);
      case "hold": return "" + hold(a[0], a[1], a[2], a[3], a[4]);
      case "queue": return "" + queue(a[0], a[1], a[2], a[3]);
      case "group": return "" + group(a[0], a[1], a[2], a[3], a[4]);
      case "pay": return "" + pay(a[0]);
      case "cancel": return "" + cancel(a[0]);
      case "shorten": return "" + shorten(a[0], a[1]);
      case "lengthen": return "" + lengthen(a[0], a[1]);
      case "move": return "" + move(a[0], a[1]);
      case "redeal": return "" + redeal();
      case "undo": return "" + undo();
      case "blank": nines++; return "-9";
      case "tear": nines++; return "-9";
      case "knock": knocks++; return "" + knocks;
      default: return ask(name, a);
    }
  }

  private String ask(String name, int[] a) {
    switch (name) {
      case "ofStay": return "" + ofStay(a[0], a[1]);
      case "ofRoom": return "" + ofRoom(a[0], a[1]);
      case "at": return "" + at(a[0], a[1], a[2]);
      case "between": return "" + between(a[0], a[1], a[2]);
      case "text": return text(a[0], a[1]);
      case "waiting": return "" + waiting(a[0]);
      case "busy": return "" + busy(a[0]);
      case "house": return "" + house(a[0]);
      case "free": return "" + free(a[0], a[1], a[2], a[3] != 0);
      case "hinders": return "" + hinders(a[0], a[1], a[2]);
      case "dealing": return "" + dealing(a[0]);
      case "dealt": return "" + dealt(a[0]);
      case "moves": return "" + moves(a[0], a[1], a[2]);
      case "price": return "" + price(a[0], a[1], a[2]);
      case "odds": return "" + odds(a[0], a[1], a[2]);
      case "oneRoom": return "" + oneRoom(a[0]);
      case "chosen": return chosen(a[0] != 0);
      case "isSound": return "true";
      case "digest": return "" + digest();
      default: throw new IllegalStateException("no call " + name);
    }
  }

  // ---- words of the document

  private static void refuse(boolean isWrong, String how) {
    if (isWrong) {
      throw new Refused(how);
    }
  }

  private static boolean isOut(int x, int least, int most) {
    return x < least || x > most;
  }

  private void needRoom(int room) {
    refuse(isOut(room, 0, rooms.size() - 1), INDEX);
  }

  private void needStay(int stay) {
    refuse(isOut(stay, 0, guests.size() - 1), INDEX);
  }

  private static void needNights(int first, int length) {
    refuse(isOut(first, 0, 99), ARGUMENT);
    refuse(isOut(length, 1, 20), ARGUMENT);
    refuse(first + length - 1 > 99, ARGUMENT);
  }

  private static Set<Integer> nights(int from, int to) {
    Set<Integer> set = new TreeSet<>();
    for (int n = from; n <= to; n++) {
      set.add(n);
    }
    return set;
  }

  private Set<Integer> taken(Guest g) {
    return nights(g.first, g.last() + clean);
  }

  private boolean meet(Guest a, Guest b) {
    return !Collections.disjoint(taken(a), taken(b));
  }

  private boolean isOfKind(int room, Guest g) {
    return g.kind == 3 || rooms.get(room) == g.kind;
  }

  private List<Guest> booked() {
    List<Guest> some = new ArrayList<>();
    for (Guest g : guests) {
      if (g.isBooked()) {
        some.add(g);
      }
    }
    some.sort(Comparator.<Guest>comparingInt(g -> g.first).thenComparingInt(g -> g.number));
    return some;
  }

  private List<Guest> in(int room) {
    List<Guest> some = booked();
    some.removeIf(g -> g.room != room);
    return some;
  }

  private boolean isShut(int room, Set<Integer> nights) {
    for (Shut s : shuts) {
      if (s.room == room && !Collections.disjoint(nights, nights(s.from, s.to))) {
        return true;
      }
    }
    return false;
  }

  private boolean isFree(int room, Guest would) {
    for (Guest g : in(room)) {
      if (g != would && meet(g, would)) {
        return false;
      }
    }
    return !isShut(room, taken(would));
  }

  private List<Integer> freeRooms(Guest would) {
    List<Integer> some = new ArrayList<>();
    for (int r = 0; r < rooms.size(); r++) {
      if (isOfKind(r, would) && isFree(r, would)) {
        some.add(r);
      }
    }
    return some;
  }

  private static Guest would(int kind, int first, int length) {
    Guest g = new Guest();
    g.number = -7;
    g.kind = kind;
    g.first = first;
    g.length = length;
    g.state = 3;
    return g;
  }

  private void lookAfterTheList() {
    for (Guest g : new ArrayList<>(list)) {
      List<Integer> some = freeRooms(g);
      if (!some.isEmpty()) {
        g.room = some.get(0);
        g.state = 1;
        list.remove(g);
        gotFromList++;
      }
    }
  }

  private int active() {
    return booked().size() + list.size();
  }

  // ---- what is told

  private void tell(Runnable call) {
    toldCalls.add(call);
  }

  private int room(int kind) {
    refuse(isOut(kind, 0, 2), ARGUMENT);
    refuse(rooms.size() == 6, STATE);
    tell(() -> room(kind));
    rooms.add(kind);
    lookAfterTheList();
    return rooms.size() - 1;
  }

  private int close(int room, int from, int to) {
    needRoom(room);
    refuse(isOut(from, 0, 99) || isOut(to, from, 99), ARGUMENT);
    tell(() -> close(room, from, to));
    Set<Integer> nights = nights(from, to);
    for (Guest g : in(room)) {
      if (!Collections.disjoint(nights, taken(g))) {
        return -1;
      }
    }
    if (isShut(room, nights)) {
      return -1;
    }
    Shut s = new Shut();
    s.room = room;
    s.from = from;
    s.to = to;
    shuts.add(s);
    return ofRoom(room, 2);
  }

  private int open(int room, int from) {
    needRoom(room);
    refuse(isOut(from, 0, 99), ARGUMENT);
    tell(() -> open(room, from));
    for (Shut s : new ArrayList<>(shuts)) {
      if (s.room == room && s.from == from) {
        shuts.remove(s);
        lookAfterTheList();
        return s.to - s.from + 1;
      }
    }
    return -1;
  }

  private int clean(int nights) {
    refuse(isOut(nights, 0, 2), ARGUMENT);
    refuse(!booked().isEmpty(), STATE);
    tell(() -> clean(nights));
    int before = clean;
    clean = nights;
    return before;
  }

  private int base(int kind, int base) {
    refuse(isOut(kind, 0, 2) || isOut(base, 0, 500), ARGUMENT);
    tell(() -> base(kind, base));
    int before = bases[kind];
    bases[kind] = base;
    return before;
  }

  private int pass(int hours) {
    refuse(isOut(hours, 1, 99), ARGUMENT);
    refuse(hour + hours > 9999, STATE);
    tell(() -> pass(hours));
    hour += hours;
    int gone = 0;
    for (Guest g : guests) {
      if (g.state == 0 && g.till <= hour) {
        g.state = 3;
        g.room = -1;
        gone++;
      }
    }
    if (gone > 0) {
      lookAfterTheList();
    }
    return gone;
  }

  private static void needStayToBe(int kind, int first, int length, int worth) {
    refuse(isOut(kind, 0, 3), ARGUMENT);
    needNights(first, length);
    refuse(isOut(worth, 1, 500), ARGUMENT);
  }

  private Guest keep(int kind, int first, int length, int worth) {
    Guest g = would(kind, first, length);
    g.worth = worth;
    g.number = guests.size();
    guests.add(g);
    return g;
  }

  private int book(int kind, int first, int length, int worth) {
    needStayToBe(kind, first, length, worth);
    refuse(active() >= 40, STATE);
    tell(() -> book(kind, first, length, worth));
    List<Integer> some = freeRooms(would(kind, first, length));
    if (some.isEmpty()) {
      return -1;
    }
    Guest g = keep(kind, first, length, worth);
    g.state = 1;
    g.room = some.get(0);
    return g.number;
  }

  private int hold(int kind, int first, int length, int worth, int hours) {
    needStayToBe(kind, first, length, worth);
    refuse(isOut(hours, 1, 99), ARGUMENT);
    refuse(active() >= 40, STATE);
    tell(() -> hold(kind, first, length, worth, hours));
    List<Integer> some = freeRooms(would(kind, first, length));
    if (some.isEmpty()) {
      return -1;
    }
    Guest g = keep(kind, first, length, worth);
    g.state = 0;
    g.till = hour + hours;
    g.room = some.get(0);
    return g.number;
  }

  private int queue(int kind, int first, int length, int worth) {
    needStayToBe(kind, first, length, worth);
    refuse(active() >= 40, STATE);
    tell(() -> queue(kind, first, length, worth));
    Guest g = keep(kind, first, length, worth);
    g.state = 2;
    list.add(g);
    return g.number;
  }

  private int group(int kind, int first, int length, int many, int worth) {
    needStayToBe(kind, first, length, worth);
    refuse(isOut(many, 2, 4), ARGUMENT);
    refuse(active() + many > 40, STATE);
    tell(() -> group(kind, first, length, many, worth));
    List<Integer> some = freeRooms(would(kind, first, length));
    for (int r = 0; r < rooms.size(); r++) {
      List<Integer> side = new ArrayList<>(nights(r, r + many - 1));
      if (some.containsAll(side)) {
        int number = guests.size();
        for (int beside : side) {
          Guest g = keep(kind, first, length, worth);
          g.state = 1;
          g.room = beside;
        }
        return number;
      }
    }
    return -1;
  }

  private int pay(int stay) {
    needStay(stay);
    Guest g = guests.get(stay);
    refuse(g.state != 0, STATE);
    tell(() -> pay(stay));
    g.state = 1;
    return g.till - hour;
  }

  private int cancel(int stay) {
    needStay(stay);
    Guest g = guests.get(stay);
    refuse(g.state == 3, STATE);
    tell(() -> cancel(stay));
    int room = g.room;
    g.state = 3;
    g.room = -1;
    list.remove(g);
    lookAfterTheList();
    return room;
  }

  private int shorten(int stay, int nights) {
    needStay(stay);
    refuse(isOut(nights, 1, 20), ARGUMENT);
    Guest g = guests.get(stay);
    refuse(g.state == 3 || g.length <= nights, STATE);
    tell(() -> shorten(stay, nights));
    g.length -= nights;
    int length = g.length;
    lookAfterTheList();
    return length;
  }

  private int lengthen(int stay, int nights) {
    needStay(stay);
    refuse(isOut(nights, 1, 20), ARGUMENT);
    Guest g = guests.get(stay);
    refuse(g.state == 3 || g.length + nights > 20 || g.last() + nights > 99, STATE);
    tell(() -> lengthen(stay, nights));
    g.length += nights;
    if (g.state != 2 && !isFree(g.room, g)) {
      g.length -= nights;
      return -1;
    }
    return g.length;
  }

  private int move(int stay, int room) {
    needStay(stay);
    needRoom(room);
    Guest g = guests.get(stay);
    refuse(!g.isBooked(), STATE);
    tell(() -> move(stay, room));
    if (g.room == room || !isOfKind(room, g) || !isFree(room, g)) {
      return -1;
    }
    int before = g.room;
    g.room = room;
    lookAfterTheList();
    return before;
  }

  private int redeal() {
    tell(() -> redeal());
    Map<Guest, Integer> anew = new HashMap<>();
    for (Guest g : booked()) {
      for (int r = 0; r < rooms.size() && !anew.containsKey(g); r++) {
        boolean isGood = isOfKind(r, g) && !isShut(r, taken(g));
        for (Guest other : anew.keySet()) {
          isGood &= anew.get(other) != r || !meet(g, other);
        }
        if (isGood) {
          anew.put(g, r);
        }
      }
      if (!anew.containsKey(g)) {
        return -1;
      }
    }
    int many = 0;
    for (Guest g : anew.keySet()) {
      if (g.room != anew.get(g)) {
        many++;
        g.room = anew.get(g);
      }
    }
    if (many > 0) {
      lookAfterTheList();
    }
    return many;
  }

  private int undo() {
    refuse(toldCalls.isEmpty(), STATE);
    List<Runnable> calls = toldCalls.subList(0, toldCalls.size() - 1);
    rooms.clear();
    guests.clear();
    list.clear();
    shuts.clear();
    bases = new int[] {100, 100, 100};
    clean = 0;
    hour = 0;
    gotFromList = 0;
    toldCalls = new ArrayList<>();
    for (Runnable call : calls) {
      call.run();
    }
    return toldCalls.size();
  }

  // ---- what is asked

  private int ofStay(int stay, int what) {
    needStay(stay);
    refuse(isOut(what, 0, 8), ARGUMENT);
    Guest g = guests.get(stay);
    int[] all = {g.kind, g.first, g.length, g.last(), g.worth, g.state, g.isBooked() ? g.room : -1,
        g.state == 0 ? g.till : -1, list.indexOf(g)};
    return all[what];
  }

  private int ofRoom(int room, int what) {
    needRoom(room);
    refuse(isOut(what, 0, 6), ARGUMENT);
    List<Guest> in = in(room);
    int nights = 0;
    int worth = 0;
    for (Guest g : in) {
      nights += g.length;
      worth += g.worth;
    }
    int closures = 0;
    for (Shut s : shuts) {
      closures += s.room == room ? 1 : 0;
    }
    int[] all = {rooms.get(room), in.size(), closures, nights, worth,
        in.isEmpty() ? -1 : in.get(0).number, in.isEmpty() ? -1 : in.get(in.size() - 1).number};
    return all[what];
  }

  private int at(int room, int night, int what) {
    needRoom(room);
    refuse(isOut(night, 0, 99) || isOut(what, 0, 4), ARGUMENT);
    int[] all = {-1, -1, -1, -1, -1};
    for (Guest g : in(room)) {
      if (night >= g.first && night <= g.last()) {
        all[0] = g.number;
      }
      if (taken(g).contains(night)) {
        all[1] = g.number;
      }
      if (g.first <= night) {
        all[2] = g.number;
      }
      if (g.first > night && all[3] == -1) {
        all[3] = g.number;
      }
      if (g.first < night) {
        all[4] = g.number;
      }
    }
    return all[what];
  }

  private int between(int room, int from, int to) {
    needRoom(room);
    refuse(isOut(from, 0, 99) || isOut(to, 0, 99), ARGUMENT);
    if (from > to) {
      nines++;
      return -9;
    }
    int many = 0;
    for (Guest g : in(room)) {
      many += nights(from, to).contains(g.first) ? 1 : 0;
    }
    return many;
  }

  private String text(int room, int from) {
    needRoom(room);
    refuse(isOut(from, 0, 99), ARGUMENT);
    String text = "";
    for (int night = from; night <= 99 && night < from + 20; night++) {
      int sleeps = at(room, night, 0);
      boolean isShut = isShut(room, nights(night, night));
      text += sleeps >= 0 ? "" + sleeps % 10 : at(room, night, 1) >= 0 ? ":" : isShut ? "#" : ".";
    }
    return text;
  }

  private int waiting(int nth) {
    refuse(nth < 0, ARGUMENT);
    if (nth >= list.size()) {
      nines++;
      return -9;
    }
    return list.get(nth).number;
  }

  private int busy(int night) {
    refuse(isOut(night, 0, 99), ARGUMENT);
    return busyToo(night);
  }

  private int busyToo(int night) {
    int many = 0;
    for (Guest g : booked()) {
      many += taken(g).contains(night) ? 1 : 0;
    }
    return many;
  }

  private int house(int what) {
    refuse(isOut(what, 0, 13), ARGUMENT);
    int[] states = new int[4];
    int worth = 0;
    for (Guest g : guests) {
      states[g.state]++;
      worth += g.isBooked() ? g.worth : 0;
    }
    int[] all = {rooms.size(), guests.size(), states[0], states[1], states[2], states[3], hour,
        clean, shuts.size(), toldCalls.size(), nines, knocks, worth, gotFromList};
    return all[what];
  }

  // ---- what would be

  private int free(int kind, int first, int length, boolean isSet) {
    refuse(isOut(kind, 0, 3), ARGUMENT);
    needNights(first, length);
    List<Integer> some = freeRooms(would(kind, first, length));
    int set = 0;
    for (int r : some) {
      set += 1 << r;
    }
    return isSet ? set : some.isEmpty() ? -1 : some.get(0);
  }

  private int hinders(int room, int first, int length) {
    needRoom(room);
    needNights(first, length);
    Guest would = would(3, first, length);
    TreeMap<Integer, Integer> who = new TreeMap<>();
    for (Guest g : in(room)) {
      if (meet(g, would)) {
        who.put(g.first, g.number);
      }
    }
    for (Shut s : shuts) {
      if (s.room == room && !Collections.disjoint(nights(s.from, s.to), taken(would))) {
        who.put(s.from, -2);
      }
    }
    return who.isEmpty() ? -1 : who.firstEntry().getValue();
  }

  private Map<Guest, Integer> dealt() {
    Map<Guest, Integer> rooms = new HashMap<>();
    for (Guest g : booked()) {
      for (int r = 0; !rooms.containsKey(g); r++) {
        boolean isGood = true;
        for (Guest other : rooms.keySet()) {
          isGood &= rooms.get(other) != r || !meet(g, other);
        }
        if (isGood) {
          rooms.put(g, r);
        }
      }
    }
    return rooms;
  }

  private int dealing(int what) {
    refuse(isOut(what, 0, 2), ARGUMENT);
    int needs = 0;
    for (int r : dealt().values()) {
      needs = Math.max(needs, r + 1);
    }
    int most = 0;
    int night = -1;
    for (int n = 0; n < 150; n++) {
      if (busyToo(n) > most) {
        most = busyToo(n);
        night = n;
      }
    }
    return new int[] {needs, most, night}[what];
  }

  private int dealt(int stay) {
    needStay(stay);
    return dealt().getOrDefault(guests.get(stay), -1);
  }

  private int moves(int kind, int first, int length) {
    refuse(isOut(kind, 0, 3), ARGUMENT);
    needNights(first, length);
    Guest would = would(kind, first, length);
    if (!freeRooms(would).isEmpty()) {
      return 0;
    }
    List<Guest> all = booked();
    for (Guest g : all) {
      if (someRoom(g, () -> isWell(g) && !freeRooms(would).isEmpty())) {
        return 1;
      }
    }
    for (Guest g : all) {
      for (Guest other : all) {
        if (g.number < other.number
            && someRoom(g, () -> someRoom(other,
                () -> isWell(g) && isWell(other) && !freeRooms(would).isEmpty()))) {
          return 2;
        }
      }
    }
    return -1;
  }

  private boolean isWell(Guest g) {
    return isFree(g.room, g);
  }

  private interface Question {
    boolean isTrue();
  }

  /** Whether the question is true with the guest in some other room of its kind. */
  private boolean someRoom(Guest g, Question question) {
    int before = g.room;
    boolean isFound = false;
    for (int r = 0; r < rooms.size() && !isFound; r++) {
      if (r != before && isOfKind(r, g)) {
        g.room = r;
        isFound = question.isTrue();
      }
    }
    g.room = before;
    return isFound;
  }

  private int price(int kind, int first, int length) {
    refuse(isOut(kind, 0, 2), ARGUMENT);
    needNights(first, length);
    int sum = 0;
    for (int night = first; night < first + length; night++) {
      int all = 0;
      int taken = 0;
      for (int r = 0; r < rooms.size(); r++) {
        if (rooms.get(r) == kind) {
          all++;
          taken += at(r, night, 1) >= 0 ? 1 : 0;
        }
      }
      int full = all == 0 ? 0 : 100 * taken / all;
      sum += bases[kind] * (100 + full) / 100;
    }
    return sum;
  }

  private int odds(int night, int more, int chance) {
    refuse(isOut(night, 0, 99) || isOut(more, 0, 8) || isOut(chance, 0, 10), ARGUMENT);
    int n = more;
    for (Guest g : booked()) {
      n += night >= g.first && night <= g.last() ? 1 : 0;
    }
    if (n > 8) {
      return -1;
    }
    long ways = 0;
    for (int set = 0; set < 1 << n; set++) {
      long its = 1;
      for (int guest = 0; guest < n; guest++) {
        its *= (set >> guest & 1) == 1 ? chance : 10 - chance;
      }
      ways += Integer.bitCount(set) > rooms.size() ? its : 0;
    }
    return (int) ways;
  }

  // ---- one room for those who wait

  private int oneRoom(int what) {
    refuse(isOut(what, 0, 3), ARGUMENT);
    switch (what) {
      case 0: return chosenMost().size();
      case 1: return list.size() <= 7 ? stabsByTrying() : chosenMost().size();
      case 2: return greatest(row(), new HashMap<>());
      default: return leastSum();
    }
  }

  /** Some nights of the last ones that are taken always are among the best. */
  private int stabsByTrying() {
    List<Integer> nights = new ArrayList<>();
    for (Guest g : list) {
      nights.add(g.last() + clean);
    }
    int fewest = list.size();
    for (int set = 0; set < 1 << nights.size(); set++) {
      boolean isEnough = true;
      for (Guest g : list) {
        boolean isStabbed = false;
        for (int i = 0; i < nights.size(); i++) {
          isStabbed |= (set >> i & 1) == 1 && taken(g).contains(nights.get(i));
        }
        isEnough &= isStabbed;
      }
      fewest = isEnough ? Math.min(fewest, Integer.bitCount(set)) : fewest;
    }
    return fewest;
  }

  /** The prices up to each night together must be so much at least: a longest way by nights. */
  private int leastSum() {
    int[] upTo = new int[200];
    for (int night = 0; night < 150; night++) {
      upTo[night + 1] = upTo[night];
      for (Guest g : list) {
        if (g.last() + clean == night) {
          upTo[night + 1] = Math.max(upTo[night + 1], upTo[g.first] + g.worth);
        }
      }
    }
    return upTo[150];
  }

  private List<Guest> row() {
    List<Guest> row = new ArrayList<>(list);
    row.sort(Comparator.<Guest>comparingInt(g -> g.last()).thenComparingInt(g -> g.number));
    return row;
  }

  private List<Guest> chosenMost() {
    List<Guest> left = row();
    List<Guest> chosen = new ArrayList<>();
    while (!left.isEmpty()) {
      Guest g = left.get(0);
      chosen.add(g);
      left.removeIf(other -> meet(g, other));
    }
    return chosen;
  }

  private List<Guest> without(List<Guest> row) {
    return row.subList(0, row.size() - 1);
  }

  private List<Guest> ahead(List<Guest> row) {
    List<Guest> some = new ArrayList<>(without(row));
    Guest last = row.get(row.size() - 1);
    some.removeIf(g -> meet(g, last));
    return some;
  }

  private int greatest(List<Guest> row, Map<String, Integer> known) {
    if (row.isEmpty()) {
      return 0;
    }
    StringBuilder name = new StringBuilder();
    for (Guest g : row) {
      name.append(g.number).append(' ');
    }
    Integer before = known.get(name.toString());
    if (before != null) {
      return before;
    }
    int worth = Math.max(greatest(without(row), known),
        row.get(row.size() - 1).worth + greatest(ahead(row), known));
    known.put(name.toString(), worth);
    return worth;
  }

  private List<Guest> chosenBest() {
    Map<String, Integer> known = new HashMap<>();
    List<Guest> row = row();
    List<Guest> chosen = new ArrayList<>();
    while (!row.isEmpty()) {
      if (greatest(row, known) > greatest(without(row), known)) {
        chosen.add(row.get(row.size() - 1));
        row = ahead(row);
      } else {
        row = without(row);
      }
    }
    return chosen;
  }

  private String chosen(boolean isWorth) {
    List<Guest> chosen = new ArrayList<>(isWorth ? chosenBest() : chosenMost());
    chosen.sort(Comparator.comparingInt(g -> g.first));
    String text = "";
    for (Guest g : chosen) {
      text += (text.isEmpty() ? "" : "-") + g.number;
    }
    return text;
  }

  private long digest() {
    List<Integer> all = new ArrayList<>();
    for (int what = 0; what <= 13; what++) {
      all.add(house(what));
    }
    for (int r = 0; r < rooms.size(); r++) {
      for (int what = 0; what <= 6; what++) {
        all.add(ofRoom(r, what));
      }
      for (int night : new int[] {0, 10, 50}) {
        for (int what = 0; what <= 4; what++) {
          all.add(at(r, night, what));
        }
      }
    }
    for (int i = 1; i <= 10 && i <= guests.size(); i++) {
      for (int what = 0; what <= 8; what++) {
        all.add(ofStay(guests.size() - i, what));
      }
      all.add(dealt(guests.size() - i));
    }
    for (int night = 0; night <= 30; night++) {
      all.add(busy(night));
    }
    all.addAll(Arrays.asList(dealing(0), dealing(1), dealing(2), free(3, 10, 5, true),
        free(3, 10, 5, false), moves(3, 10, 5), price(0, 10, 5), odds(10, 1, 5), oneRoom(0),
        oneRoom(1), oneRoom(2), oneRoom(3), chosen(false).length(), chosen(true).length(), 1));
    long d = 7193;
    for (int v : all) {
      d = d * 31 + v;
    }
    return d;
  }
}
