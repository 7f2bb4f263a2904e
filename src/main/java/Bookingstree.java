import java.util.ArrayList;
import java.util.Arrays;

/**
 * Bookings of rooms by nights: stays that must not meet in a room, holds that lapse, a waiting
 * list, groups, closed nights, cleaning, prices, odds, and what one room could take of those who
 * wait; all of it undone step by step.
 *
 * The face tests what it is given and throws; behind it nothing throws.
 */
public final class Bookingstree {
  private static final int NONE = -1;
  private static final int CLOSED = -2;
  private static final int NEVER = -9;

  private static final int MOST_ROOMS = 6;
  private static final int ROOM_KINDS = 3;
  private static final int ANY_KIND = 3;
  private static final int LAST_NIGHT = 99;
  private static final int MOST_CLEAN = 2;
  private static final int TAKEN_NIGHTS = LAST_NIGHT + 1 + MOST_CLEAN;
  private static final int MOST_LENGTH = 20;
  private static final int MOST_WORTH = 500;
  private static final int MOST_BASE = 500;
  private static final int MOST_STAYS = 40;
  private static final int MOST_HOURS = 99;
  private static final int LAST_HOUR = 9999;
  private static final int LEAST_GROUP = 2;
  private static final int MOST_GROUP = 4;
  private static final int MOST_GUESTS = 8;
  private static final int TEXT_NIGHTS = 20;
  private static final int MOST_TOLD = 512;

  private static final int HELD = 0;
  private static final int PAID = 1;
  private static final int WAITING = 2;
  private static final int GONE = 3;

  private static final int ROOM = 0;
  private static final int CLOSE = 1;
  private static final int OPEN = 2;
  private static final int CLEAN = 3;
  private static final int BASE = 4;
  private static final int BOOK = 5;
  private static final int HOLD = 6;
  private static final int QUEUE = 7;
  private static final int GROUP = 8;
  private static final int PAY = 9;
  private static final int CANCEL = 10;
  private static final int SHORTEN = 11;
  private static final int LENGTHEN = 12;
  private static final int MOVE = 13;
  private static final int REDEAL = 14;
  private static final int PASS = 15;

  private final House house;
  /** In this one all that is told is called again, to see whether it comes to the same. */
  private final House mirror;
  /** How many of those told were called in the mirror: only those behind them are left to call. */
  private int mirrored;
  private final Dealer dealer;
  private final Picker picker;
  private final ArrayList<Call> told;
  private int nevers;
  private int knocks;

  public Bookingstree() {
    house = new House();
    mirror = new House();
    mirrored = 0;
    dealer = new Dealer();
    picker = new Picker();
    told = new ArrayList<Call>();
    nevers = 0;
    knocks = 0;
  }

  // ---- the house

  public int room(int kind) throws IllegalArgumentException, IllegalStateException {
    needKind(kind, ROOM_KINDS - 1);
    if (house.roomCount >= MOST_ROOMS) {
      throw new IllegalStateException("there are 6 rooms");
    }
    return tell(new Call(ROOM, kind, 0, 0, 0, 0));
  }

  public int close(int room, int from, int to)
      throws IndexOutOfBoundsException, IllegalArgumentException {
    needRoom(room);
    needNight(from);
    if (to < from || to > LAST_NIGHT) {
      throw new IllegalArgumentException("the last night is not from the first one to 99");
    }
    return tell(new Call(CLOSE, room, from, to, 0, 0));
  }

  public int open(int room, int from) throws IndexOutOfBoundsException, IllegalArgumentException {
    needRoom(room);
    needNight(from);
    return tell(new Call(OPEN, room, from, 0, 0, 0));
  }

  public int clean(int nights) throws IllegalArgumentException, IllegalStateException {
    if (nights < 0 || nights > MOST_CLEAN) {
      throw new IllegalArgumentException("nights is not 0 to 2");
    }
    if (!house.booked.isEmpty()) {
      throw new IllegalStateException("a stay is booked");
    }
    return tell(new Call(CLEAN, nights, 0, 0, 0, 0));
  }

  public int base(int kind, int base) throws IllegalArgumentException {
    needKind(kind, ROOM_KINDS - 1);
    if (base < 0 || base > MOST_BASE) {
      throw new IllegalArgumentException("base is not 0 to 500");
    }
    return tell(new Call(BASE, kind, base, 0, 0, 0));
  }

  public int pass(int hours) throws IllegalArgumentException, IllegalStateException {
    needHours(hours);
    if (house.hour + hours > LAST_HOUR) {
      throw new IllegalStateException("the hour would be above 9999");
    }
    return tell(new Call(PASS, hours, 0, 0, 0, 0));
  }

  // ---- stays

  public int book(int kind, int first, int length, int worth)
      throws IllegalArgumentException, IllegalStateException {
    needKind(kind, ANY_KIND);
    needSpan(first, length);
    needWorth(worth);
    needPlaceFor(1);
    return tell(new Call(BOOK, kind, first, length, worth, 0));
  }

  public int hold(int kind, int first, int length, int worth, int hours)
      throws IllegalArgumentException, IllegalStateException {
    needKind(kind, ANY_KIND);
    needSpan(first, length);
    needWorth(worth);
    needHours(hours);
    needPlaceFor(1);
    return tell(new Call(HOLD, kind, first, length, worth, hours));
  }

  public int queue(int kind, int first, int length, int worth)
      throws IllegalArgumentException, IllegalStateException {
    needKind(kind, ANY_KIND);
    needSpan(first, length);
    needWorth(worth);
    needPlaceFor(1);
    return tell(new Call(QUEUE, kind, first, length, worth, 0));
  }

  public int group(int kind, int first, int length, int many, int worth)
      throws IllegalArgumentException, IllegalStateException {
    needKind(kind, ANY_KIND);
    needSpan(first, length);
    needWorth(worth);
    if (many < LEAST_GROUP || many > MOST_GROUP) {
      throw new IllegalArgumentException("many is not 2 to 4");
    }
    needPlaceFor(many);
    return tell(new Call(GROUP, kind, first, length, many, worth));
  }

  public int pay(int stay) throws IndexOutOfBoundsException, IllegalStateException {
    needStay(stay);
    if (house.stayAt(stay).state != HELD) {
      throw new IllegalStateException("the stay is not held");
    }
    return tell(new Call(PAY, stay, 0, 0, 0, 0));
  }

  public int cancel(int stay) throws IndexOutOfBoundsException, IllegalStateException {
    needStay(stay);
    needNotGone(stay);
    return tell(new Call(CANCEL, stay, 0, 0, 0, 0));
  }

  public int shorten(int stay, int nights)
      throws IndexOutOfBoundsException, IllegalArgumentException, IllegalStateException {
    needStay(stay);
    needNights(nights);
    needNotGone(stay);
    if (house.stayAt(stay).length <= nights) {
      throw new IllegalStateException("the stay is not longer than that");
    }
    return tell(new Call(SHORTEN, stay, nights, 0, 0, 0));
  }

  public int lengthen(int stay, int nights)
      throws IndexOutOfBoundsException, IllegalArgumentException, IllegalStateException {
    needStay(stay);
    needNights(nights);
    needNotGone(stay);
    Stay guest = house.stayAt(stay);
    if (guest.length + nights > MOST_LENGTH || guest.last() + nights > LAST_NIGHT) {
      throw new IllegalStateException("the stay would be too long");
    }
    return tell(new Call(LENGTHEN, stay, nights, 0, 0, 0));
  }

  public int move(int stay, int room) throws IndexOutOfBoundsException, IllegalStateException {
    needStay(stay);
    needRoom(room);
    if (!house.stayAt(stay).isBooked()) {
      throw new IllegalStateException("the stay is not booked");
    }
    return tell(new Call(MOVE, stay, room, 0, 0, 0));
  }

  public int redeal() {
    return tell(new Call(REDEAL, 0, 0, 0, 0, 0));
  }

  public int undo() throws IllegalStateException {
    if (told.isEmpty()) {
      throw new IllegalStateException("nothing is told");
    }
    told.remove(told.size() - 1);
    house.empty();
    for (int i = 0; i < told.size(); i++) {
      house.carryOut(told.get(i));
    }
    mirror.empty();
    mirrored = 0;
    return told.size();
  }

  // ---- what is never let

  public int blank() {
    return never();
  }

  public int tear() {
    return never();
  }

  public int knock() {
    knocks++;
    return knocks;
  }

  // ---- what is asked

  public int ofStay(int stay, int what)
      throws IndexOutOfBoundsException, IllegalArgumentException {
    needStay(stay);
    needWhat(what, 8);
    return house.aboutStay(stay, what);
  }

  public int ofRoom(int room, int what)
      throws IndexOutOfBoundsException, IllegalArgumentException {
    needRoom(room);
    needWhat(what, 6);
    return house.aboutRoom(room, what);
  }

  public int at(int room, int night, int what)
      throws IndexOutOfBoundsException, IllegalArgumentException {
    needRoom(room);
    needNight(night);
    needWhat(what, 4);
    switch (what) {
      case 0: return house.sleeperOf(room, night);
      case 1: return house.guestOf(room, night);
      case 2: return house.lastUpTo(room, night);
      case 3: return house.firstBehind(room, night);
      default: return house.lastUpTo(room, night - 1);
    }
  }

  public int between(int room, int from, int to)
      throws IndexOutOfBoundsException, IllegalArgumentException {
    needRoom(room);
    needNight(from);
    needNight(to);
    return from > to ? never() : house.arrivals(room, from, to);
  }

  public String text(int room, int from)
      throws IndexOutOfBoundsException, IllegalArgumentException {
    needRoom(room);
    needNight(from);
    StringBuilder signs = new StringBuilder();
    for (int night = from; night < from + TEXT_NIGHTS && night <= LAST_NIGHT; night++) {
      signs.append(house.sign(room, night));
    }
    return signs.toString();
  }

  public int waiting(int nth) throws IllegalArgumentException {
    if (nth < 0) {
      throw new IllegalArgumentException("nth is below 0");
    }
    return nth < house.waiting.size() ? house.waiting.get(nth).number : never();
  }

  public int busy(int night) throws IllegalArgumentException {
    needNight(night);
    return house.guestsOf(night);
  }

  public int house(int what) throws IllegalArgumentException {
    needWhat(what, 13);
    switch (what) {
      case 9: return told.size();
      case 10: return nevers;
      case 11: return knocks;
      default: return house.total(what);
    }
  }

  // ---- what would be

  public int free(int kind, int first, int length, boolean isSet) throws IllegalArgumentException {
    needKind(kind, ANY_KIND);
    needSpan(first, length);
    int till = first + length - 1 + house.clean;
    return isSet ? house.setOfFree(kind, first, till) : house.smallestFree(kind, first, till);
  }

  public int hinders(int room, int first, int length)
      throws IndexOutOfBoundsException, IllegalArgumentException {
    needRoom(room);
    needSpan(first, length);
    return house.roomAt(room).hinderer(first, first + length - 1 + house.clean, NONE);
  }

  public int dealing(int what) throws IllegalArgumentException {
    needWhat(what, 2);
    switch (what) {
      case 0: return dealer.deal(house.booked, house.clean);
      case 1: return dealer.peak(house.booked, house.clean);
      default: return dealer.peakNight(house.booked, house.clean);
    }
  }

  public int dealt(int stay) throws IndexOutOfBoundsException {
    needStay(stay);
    return dealer.roomOf(house.stayAt(stay), house.booked, house.clean);
  }

  public int moves(int kind, int first, int length) throws IllegalArgumentException {
    needKind(kind, ANY_KIND);
    needSpan(first, length);
    return house.fewestMoves(kind, first, first + length - 1 + house.clean);
  }

  public int price(int kind, int first, int length) throws IllegalArgumentException {
    needKind(kind, ROOM_KINDS - 1);
    needSpan(first, length);
    int sum = 0;
    for (int night = first; night < first + length; night++) {
      sum += house.priceOf(kind, night);
    }
    return sum;
  }

  public int odds(int night, int more, int chance) throws IllegalArgumentException {
    needNight(night);
    if (more < 0 || more > MOST_GUESTS) {
      throw new IllegalArgumentException("more is not 0 to 8");
    }
    if (chance < 0 || chance > 10) {
      throw new IllegalArgumentException("chance is not 0 to 10");
    }
    return waysAbove(house.roomCount, house.sleepersOf(night) + more, chance);
  }

  public int oneRoom(int what) throws IllegalArgumentException {
    needWhat(what, 3);
    picker.lineUp(house.waiting, house.clean);
    switch (what) {
      case 0: return picker.most();
      case 1: return picker.stabs();
      case 2: return picker.bestWorth();
      default: return picker.leastSum();
    }
  }

  public String chosen(boolean isWorth) {
    picker.lineUp(house.waiting, house.clean);
    return picker.picked(isWorth);
  }

  public boolean isSound() {
    mirrorAll();
    picker.lineUp(house.waiting, house.clean);
    return house.isInOrder()
        && dealer.deal(house.booked, house.clean) == dealer.peak(house.booked, house.clean)
        && picker.most() == picker.stabs()
        && picker.bestWorth() == picker.leastSum()
        && house.looksLike(mirror);
  }

  public long digest() {
    long d = 7193;
    for (int what = 0; what <= 13; what++) {
      d = d * 31 + house(what);
    }
    d = digestRooms(d);
    d = digestStays(d);
    for (int night = 0; night <= 30; night++) {
      d = d * 31 + busy(night);
    }
    for (int what = 0; what <= 2; what++) {
      d = d * 31 + dealing(what);
    }
    d = d * 31 + free(3, 10, 5, true);
    d = d * 31 + free(3, 10, 5, false);
    d = d * 31 + moves(3, 10, 5);
    d = d * 31 + price(0, 10, 5);
    d = d * 31 + odds(10, 1, 5);
    for (int what = 0; what <= 3; what++) {
      d = d * 31 + oneRoom(what);
    }
    d = d * 31 + chosen(false).length();
    d = d * 31 + chosen(true).length();
    return d * 31 + (isSound() ? 1 : 0);
  }

  // ---- parts of the face

  private long digestRooms(long before) {
    long d = before;
    for (int room = 0; room < house.roomCount; room++) {
      for (int what = 0; what <= 6; what++) {
        d = d * 31 + ofRoom(room, what);
      }
      d = digestNight(d, room, 0);
      d = digestNight(d, room, 10);
      d = digestNight(d, room, 50);
    }
    return d;
  }

  private long digestNight(long before, int room, int night) {
    long d = before;
    for (int what = 0; what <= 4; what++) {
      d = d * 31 + at(room, night, what);
    }
    return d;
  }

  private long digestStays(long before) {
    long d = before;
    int end = house.stayCount - 10;
    for (int stay = house.stayCount - 1; stay >= 0 && stay >= end; stay--) {
      for (int what = 0; what <= 8; what++) {
        d = d * 31 + ofStay(stay, what);
      }
      d = d * 31 + dealt(stay);
    }
    return d;
  }

  /** Beyond the calls that an object is made for nothing is kept any more. */
  private int tell(Call call) {
    if (told.size() >= MOST_TOLD) {
      return NONE;
    }
    told.add(call);
    return house.carryOut(call);
  }

  private void mirrorAll() {
    for (int i = mirrored; i < told.size(); i++) {
      mirror.carryOut(told.get(i));
    }
    mirrored = told.size();
  }

  private int never() {
    nevers++;
    return NEVER;
  }

  private static int waysAbove(int rooms, int guests, int chance) {
    if (guests > MOST_GUESTS) {
      return NONE;
    }
    int[] ways = new int[MOST_GUESTS + 1];
    ways[0] = 1;
    for (int guest = 1; guest <= guests && guest < ways.length; guest++) {
      for (int come = guest; come >= 1; come--) {
        ways[come] = ways[come] * (10 - chance) + ways[come - 1] * chance;
      }
      ways[0] = ways[0] * (10 - chance);
    }
    int sum = 0;
    for (int come = rooms + 1; come < ways.length; come++) {
      sum += ways[come];
    }
    return sum;
  }

  private void needRoom(int room) {
    if (room < 0 || room >= house.roomCount) {
      throw new IndexOutOfBoundsException("there is no such room");
    }
  }

  private void needStay(int stay) {
    if (stay < 0 || stay >= house.stayCount) {
      throw new IndexOutOfBoundsException("there is no such stay");
    }
  }

  private void needNotGone(int stay) {
    if (house.stayAt(stay).state == GONE) {
      throw new IllegalStateException("the stay is gone");
    }
  }

  private void needPlaceFor(int many) {
    if (house.booked.size() + house.waiting.size() + many > MOST_STAYS) {
      throw new IllegalStateException("more than 40 would be booked or waiting");
    }
  }

  private static void needKind(int kind, int greatest) {
    if (kind < 0 || kind > greatest) {
      throw new IllegalArgumentException("there is no such kind");
    }
  }

  private static void needNight(int night) {
    if (night < 0 || night > LAST_NIGHT) {
      throw new IllegalArgumentException("a night is not 0 to 99");
    }
  }

  private static void needSpan(int first, int length) {
    needNight(first);
    if (length < 1 || length > MOST_LENGTH) {
      throw new IllegalArgumentException("length is not 1 to 20");
    }
    if (first + length - 1 > LAST_NIGHT) {
      throw new IllegalArgumentException("the last night is above 99");
    }
  }

  private static void needNights(int nights) {
    if (nights < 1 || nights > MOST_LENGTH) {
      throw new IllegalArgumentException("nights is not 1 to 20");
    }
  }

  private static void needWorth(int worth) {
    if (worth < 1 || worth > MOST_WORTH) {
      throw new IllegalArgumentException("worth is not 1 to 500");
    }
  }

  private static void needHours(int hours) {
    if (hours < 1 || hours > MOST_HOURS) {
      throw new IllegalArgumentException("hours is not 1 to 99");
    }
  }

  private static void needWhat(int what, int greatest) {
    if (what < 0 || what > greatest) {
      throw new IllegalArgumentException("what is not one of those that can be asked");
    }
  }

  /** A call that was told, with what it was given, in that order. */
  private static final class Call {
    private final int what;
    private final int a;
    private final int b;
    private final int c;
    private final int d;
    private final int e;

    Call(int what, int a, int b, int c, int d, int e) {
      this.what = what;
      this.a = a;
      this.b = b;
      this.c = c;
      this.d = d;
      this.e = e;
    }
  }

  private static final class Stay {
    private final int number;
    private int kind;
    private int first;
    private int length;
    private int worth;
    private int state;
    private int room;
    private int till;

    Stay(int number) {
      this.number = number;
      this.kind = NONE;
      this.length = 1;
      this.state = GONE;
      this.room = NONE;
      this.till = NONE;
    }

    int last() {
      return first + length - 1;
    }

    boolean isBooked() {
      return state == HELD || state == PAID;
    }

    boolean isBehind(Stay other) {
      return first != other.first ? first > other.first : number > other.number;
    }
  }

  private static final class Room {
    private int kind;
    private int closures;
    /** Night by night the stay that takes it, CLOSED or NONE. */
    private final int[] takers;
    /** The last night of the closure that begins with a night; NONE, if none does. */
    private final int[] closedTo;

    Room() {
      kind = NONE;
      closures = 0;
      takers = new int[TAKEN_NIGHTS];
      closedTo = new int[LAST_NIGHT + 1];
      Arrays.fill(takers, NONE);
      Arrays.fill(closedTo, NONE);
    }

    void begin(int itsKind) {
      kind = itsKind;
      closures = 0;
      Arrays.fill(takers, NONE);
      Arrays.fill(closedTo, NONE);
    }

    boolean isOf(int askedKind) {
      return kind == askedKind || askedKind == ANY_KIND && kind != NONE;
    }

    int takerOf(int night) {
      return night >= 0 && night < takers.length ? takers[night] : NONE;
    }

    void mark(int from, int till, int who) {
      for (int night = from; night <= till && night >= 0 && night < takers.length; night++) {
        takers[night] = who;
      }
    }

    /** As no two meet here, who takes the first taken night has the smallest first one too. */
    int hinderer(int from, int till, int aside) {
      for (int night = from; night <= till && night >= 0 && night < takers.length; night++) {
        if (takers[night] != NONE && takers[night] != aside) {
          return takers[night];
        }
      }
      return NONE;
    }

    boolean isClosedWithin(int from, int till) {
      for (int night = from; night <= till && night >= 0 && night < takers.length; night++) {
        if (takers[night] == CLOSED) {
          return true;
        }
      }
      return false;
    }

    int shut(int from, int to) {
      if (from < 0 || from >= closedTo.length || hinderer(from, to, NONE) != NONE) {
        return NONE;
      }
      mark(from, to, CLOSED);
      closedTo[from] = to;
      closures++;
      return closures;
    }

    int unshut(int from) {
      if (from < 0 || from >= closedTo.length || closedTo[from] == NONE) {
        return NONE;
      }
      int to = closedTo[from];
      mark(from, to, NONE);
      closedTo[from] = NONE;
      closures--;
      return to - from + 1;
    }
  }

  /** All that comes of what was told: rooms, stays, the list, the hour. */
  private static final class House {
    private final Room[] rooms;
    /** Stands for a room that there is not: of no kind, and nobody in it. */
    private final Room nowhere;
    private int roomCount;
    private final int[] bases;
    private int clean;
    private int hour;
    /** Behind those that were kept stand some that are left over, to be used again. */
    private final ArrayList<Stay> stays;
    /** Stands for a stay that there is not. */
    private final Stay nobody;
    private int stayCount;
    /** By rising first night, of the same by rising number: the order of dealing. */
    private final ArrayList<Stay> booked;
    private final ArrayList<Stay> waiting;
    private int gotFromList;
    private final int[] newRooms;
    private final int[] dealtTills;
    private final int[] marks;

    House() {
      rooms = new Room[MOST_ROOMS];
      for (int room = 0; room < rooms.length; room++) {
        rooms[room] = new Room();
      }
      nowhere = new Room();
      roomCount = 0;
      bases = new int[] {100, 100, 100};
      clean = 0;
      hour = 0;
      stays = new ArrayList<Stay>();
      nobody = new Stay(NONE);
      stayCount = 0;
      booked = new ArrayList<Stay>();
      waiting = new ArrayList<Stay>();
      gotFromList = 0;
      newRooms = new int[MOST_STAYS];
      dealtTills = new int[MOST_ROOMS];
      marks = new int[TAKEN_NIGHTS];
    }

    void empty() {
      roomCount = 0;
      Arrays.fill(bases, 100);
      clean = 0;
      hour = 0;
      stayCount = 0;
      booked.clear();
      waiting.clear();
      gotFromList = 0;
    }

    Room roomAt(int number) {
      if (number < 0 || number >= roomCount || number >= rooms.length) {
        return nowhere;
      }
      Room room = rooms[number];
      return room == null ? nowhere : room;
    }

    Stay stayAt(int number) {
      if (number < 0 || number >= stayCount || number >= stays.size()) {
        return nobody;
      }
      return stays.get(number);
    }

    // ---- what is told

    int carryOut(Call call) {
      int answer = NONE;
      switch (call.what) {
        case ROOM: answer = addRoom(call.a); break;
        case CLOSE: answer = roomAt(call.a).shut(call.b, call.c); break;
        case OPEN: answer = roomAt(call.a).unshut(call.b); break;
        case CLEAN: answer = setClean(call.a); break;
        case BASE: answer = setBase(call.a, call.b); break;
        case BOOK: answer = ask(call, PAID, NONE); break;
        case HOLD: answer = ask(call, HELD, hour + call.e); break;
        case QUEUE: answer = enlist(call); break;
        case GROUP: answer = askTogether(call); break;
        case PAY: answer = settle(stayAt(call.a)); break;
        case CANCEL: answer = callOff(stayAt(call.a)); break;
        case SHORTEN: answer = cut(stayAt(call.a), call.b); break;
        case LENGTHEN: answer = stretch(stayAt(call.a), call.b); break;
        case MOVE: answer = shift(stayAt(call.a), call.b); break;
        case REDEAL: answer = dealAnew(); break;
        case PASS: answer = letPass(call.a); break;
        default: break;
      }
      if (calledForTheList(call.what, answer)) {
        lookAfterTheList();
      }
      return answer;
    }

    private static boolean calledForTheList(int what, int answer) {
      switch (what) {
        case ROOM:
        case CANCEL:
        case SHORTEN: return true;
        case OPEN:
        case MOVE: return answer != NONE;
        case REDEAL:
        case PASS: return answer > 0;
        default: return false;
      }
    }

    private void lookAfterTheList() {
      int many = waiting.size();
      int place = 0;
      for (int looked = 0; looked < many && place < waiting.size(); looked++) {
        Stay stay = waiting.get(place);
        int room = smallestFree(stay.kind, stay.first, stay.last() + clean);
        if (room == NONE) {
          place++;
        } else {
          waiting.remove(place);
          moveIn(stay, room, PAID);
          gotFromList++;
        }
      }
    }

    private int addRoom(int kind) {
      if (roomCount >= rooms.length) {
        return NONE;
      }
      int number = roomCount;
      roomCount++;
      roomAt(number).begin(kind);
      return number;
    }

    private int setClean(int nights) {
      int before = clean;
      clean = nights;
      return before;
    }

    private int setBase(int kind, int base) {
      if (kind < 0 || kind >= bases.length) {
        return NONE;
      }
      int before = bases[kind];
      bases[kind] = base;
      return before;
    }

    private int letPass(int hours) {
      hour += hours;
      int gone = 0;
      for (int place = booked.size() - 1; place >= 0; place--) {
        Stay stay = booked.get(place);
        if (stay.state == HELD && stay.till <= hour) {
          moveOut(stay);
          gone++;
        }
      }
      return gone;
    }

    private int ask(Call call, int state, int till) {
      int room = smallestFree(call.a, call.b, call.b + call.c - 1 + clean);
      if (room == NONE) {
        return NONE;
      }
      Stay stay = keep(call.a, call.b, call.c, call.d);
      stay.till = till;
      moveIn(stay, room, state);
      return stay.number;
    }

    private int enlist(Call call) {
      Stay stay = keep(call.a, call.b, call.c, call.d);
      stay.state = WAITING;
      waiting.add(stay);
      return stay.number;
    }

    private int askTogether(Call call) {
      int many = call.d;
      int firstRoom = sideBySide(setOfFree(call.a, call.b, call.b + call.c - 1 + clean), many);
      if (firstRoom == NONE) {
        return NONE;
      }
      int firstStay = stayCount;
      for (int i = 0; i < many; i++) {
        moveIn(keep(call.a, call.b, call.c, call.e), firstRoom + i, PAID);
      }
      return firstStay;
    }

    private static int sideBySide(int freeRooms, int many) {
      int row = (1 << many) - 1;
      for (int room = 0; room + many <= MOST_ROOMS; room++) {
        if ((freeRooms >> room & row) == row) {
          return room;
        }
      }
      return NONE;
    }

    private int settle(Stay stay) {
      stay.state = PAID;
      return stay.till - hour;
    }

    private int callOff(Stay stay) {
      int room = stay.room;
      if (stay.state == WAITING) {
        removeFrom(waiting, stay);
        stay.state = GONE;
      } else {
        moveOut(stay);
      }
      return room;
    }

    private int cut(Stay stay, int nights) {
      if (stay.isBooked()) {
        roomAt(stay.room).mark(stay.first, stay.last() + clean, NONE);
      }
      stay.length -= nights;
      if (stay.isBooked()) {
        roomAt(stay.room).mark(stay.first, stay.last() + clean, stay.number);
      }
      return stay.length;
    }

    private int stretch(Stay stay, int nights) {
      if (stay.isBooked()) {
        Room room = roomAt(stay.room);
        int till = stay.last() + nights + clean;
        if (room.hinderer(stay.first, till, stay.number) != NONE) {
          return NONE;
        }
        room.mark(stay.first, till, stay.number);
      }
      stay.length += nights;
      return stay.length;
    }

    private int shift(Stay stay, int number) {
      int before = stay.room;
      Room room = roomAt(number);
      int till = stay.last() + clean;
      if (number == before || !room.isOf(stay.kind)
          || room.hinderer(stay.first, till, NONE) != NONE) {
        return NONE;
      }
      roomAt(before).mark(stay.first, till, NONE);
      room.mark(stay.first, till, stay.number);
      stay.room = number;
      return before;
    }

    private int dealAnew() {
      Arrays.fill(dealtTills, NONE);
      for (int i = 0; i < booked.size() && i < newRooms.length; i++) {
        newRooms[i] = smallestToDeal(booked.get(i));
        if (newRooms[i] == NONE) {
          return NONE;
        }
      }
      for (int i = 0; i < booked.size(); i++) {
        Stay stay = booked.get(i);
        roomAt(stay.room).mark(stay.first, stay.last() + clean, NONE);
      }
      int moved = 0;
      for (int i = 0; i < booked.size() && i < newRooms.length; i++) {
        Stay stay = booked.get(i);
        moved += stay.room == newRooms[i] ? 0 : 1;
        stay.room = newRooms[i];
        roomAt(stay.room).mark(stay.first, stay.last() + clean, stay.number);
      }
      return moved;
    }

    /** As they come by rising first night, only the last one dealt to a room can be met there. */
    private int smallestToDeal(Stay stay) {
      int till = stay.last() + clean;
      for (int number = 0; number < roomCount && number < dealtTills.length; number++) {
        Room room = roomAt(number);
        if (room.isOf(stay.kind) && dealtTills[number] < stay.first
            && !room.isClosedWithin(stay.first, till)) {
          dealtTills[number] = till;
          return number;
        }
      }
      return NONE;
    }

    private Stay keep(int kind, int first, int length, int worth) {
      if (stayCount >= stays.size()) {
        stays.add(new Stay(stays.size()));
      }
      stayCount++;
      Stay stay = stayAt(stayCount - 1);
      stay.kind = kind;
      stay.first = first;
      stay.length = length;
      stay.worth = worth;
      stay.state = GONE;
      stay.room = NONE;
      stay.till = NONE;
      return stay;
    }

    private void moveIn(Stay stay, int room, int state) {
      stay.state = state;
      stay.room = room;
      int place = booked.size();
      while (place > 0 && booked.get(place - 1).isBehind(stay)) {
        place--;
      }
      booked.add(place, stay);
      roomAt(room).mark(stay.first, stay.last() + clean, stay.number);
    }

    private void moveOut(Stay stay) {
      roomAt(stay.room).mark(stay.first, stay.last() + clean, NONE);
      removeFrom(booked, stay);
      stay.state = GONE;
      stay.room = NONE;
    }

    private static void removeFrom(ArrayList<Stay> row, Stay stay) {
      for (int place = row.size() - 1; place >= 0; place--) {
        if (row.get(place) == stay) {
          row.remove(place);
        }
      }
    }

    // ---- what is asked

    int aboutStay(int number, int what) {
      Stay stay = stayAt(number);
      switch (what) {
        case 0: return stay.kind;
        case 1: return stay.first;
        case 2: return stay.length;
        case 3: return stay.last();
        case 4: return stay.worth;
        case 5: return stay.state;
        case 6: return stay.room;
        case 7: return stay.state == HELD ? stay.till : NONE;
        default: return placeInList(stay);
      }
    }

    private int placeInList(Stay stay) {
      for (int place = 0; place < waiting.size(); place++) {
        if (waiting.get(place) == stay) {
          return place;
        }
      }
      return NONE;
    }

    int aboutRoom(int number, int what) {
      switch (what) {
        case 0: return roomAt(number).kind;
        case 2: return roomAt(number).closures;
        case 5: return firstBehind(number, NONE);
        case 6: return lastUpTo(number, LAST_NIGHT);
        default: return sumOfRoom(number, what);
      }
    }

    private int sumOfRoom(int number, int what) {
      int sum = 0;
      for (int i = 0; i < booked.size(); i++) {
        Stay stay = booked.get(i);
        if (stay.room == number) {
          sum += what == 1 ? 1 : what == 3 ? stay.length : stay.worth;
        }
      }
      return sum;
    }

    int guestOf(int room, int night) {
      int taker = roomAt(room).takerOf(night);
      return taker == CLOSED ? NONE : taker;
    }

    int sleeperOf(int room, int night) {
      int guest = guestOf(room, night);
      return guest != NONE && night <= stayAt(guest).last() ? guest : NONE;
    }

    int lastUpTo(int room, int night) {
      for (int i = booked.size() - 1; i >= 0; i--) {
        Stay stay = booked.get(i);
        if (stay.room == room && stay.first <= night) {
          return stay.number;
        }
      }
      return NONE;
    }

    int firstBehind(int room, int night) {
      for (int i = 0; i < booked.size(); i++) {
        Stay stay = booked.get(i);
        if (stay.room == room && stay.first > night) {
          return stay.number;
        }
      }
      return NONE;
    }

    int arrivals(int room, int from, int to) {
      int many = 0;
      for (int i = 0; i < booked.size(); i++) {
        Stay stay = booked.get(i);
        if (stay.room == room && stay.first >= from && stay.first <= to) {
          many++;
        }
      }
      return many;
    }

    char sign(int room, int night) {
      int taker = roomAt(room).takerOf(night);
      if (taker == NONE) {
        return '.';
      }
      if (taker == CLOSED) {
        return '#';
      }
      return night <= stayAt(taker).last() ? (char) ('0' + taker % 10) : ':';
    }

    int guestsOf(int night) {
      int many = 0;
      for (int room = 0; room < roomCount; room++) {
        many += guestOf(room, night) != NONE ? 1 : 0;
      }
      return many;
    }

    int sleepersOf(int night) {
      int many = 0;
      for (int room = 0; room < roomCount; room++) {
        many += sleeperOf(room, night) != NONE ? 1 : 0;
      }
      return many;
    }

    int total(int what) {
      switch (what) {
        case 0: return roomCount;
        case 1: return stayCount;
        case 2: return held();
        case 3: return booked.size() - held();
        case 4: return waiting.size();
        case 5: return stayCount - booked.size() - waiting.size();
        case 6: return hour;
        case 7: return clean;
        case 8: return allClosures();
        case 12: return bookedWorth();
        default: return gotFromList;
      }
    }

    private int held() {
      int many = 0;
      for (int i = 0; i < booked.size(); i++) {
        many += booked.get(i).state == HELD ? 1 : 0;
      }
      return many;
    }

    private int bookedWorth() {
      int sum = 0;
      for (int i = 0; i < booked.size(); i++) {
        sum += booked.get(i).worth;
      }
      return sum;
    }

    private int allClosures() {
      int sum = 0;
      for (int room = 0; room < roomCount; room++) {
        sum += roomAt(room).closures;
      }
      return sum;
    }

    // ---- what would be

    int smallestFree(int kind, int from, int till) {
      for (int number = 0; number < roomCount; number++) {
        Room room = roomAt(number);
        if (room.isOf(kind) && room.hinderer(from, till, NONE) == NONE) {
          return number;
        }
      }
      return NONE;
    }

    int setOfFree(int kind, int from, int till) {
      int set = 0;
      for (int number = 0; number < roomCount; number++) {
        Room room = roomAt(number);
        if (room.isOf(kind) && room.hinderer(from, till, NONE) == NONE) {
          set |= 1 << number;
        }
      }
      return set;
    }

    int priceOf(int kind, int night) {
      if (kind < 0 || kind >= bases.length) {
        return 0;
      }
      int ofKind = 0;
      int taken = 0;
      for (int number = 0; number < roomCount; number++) {
        Room room = roomAt(number);
        if (room.isOf(kind)) {
          ofKind++;
          taken += guestOf(number, night) != NONE ? 1 : 0;
        }
      }
      int full = ofKind == 0 ? 0 : 100 * taken / ofKind;
      return bases[kind] * (100 + full) / 100;
    }

    /** Who hinders must leave its room: either alone, or two of them, or one of them that
     * drives another one out of the room where it goes. */
    int fewestMoves(int kind, int from, int till) {
      if (smallestFree(kind, from, till) != NONE) {
        return 0;
      }
      int fewest = NONE;
      for (int number = 0; number < roomCount; number++) {
        Room room = roomAt(number);
        int one = room.isOf(kind) ? room.hinderer(from, till, NONE) : CLOSED;
        if (one == CLOSED) {
          continue;
        }
        Stay hinderer = stayAt(one);
        boolean isMovable = hasOtherRoom(hinderer);
        int two = room.hinderer(hinderer.last() + clean + 1, till, NONE);
        if (two == NONE && isMovable) {
          return 1;
        }
        if (two == NONE && canDriveOut(hinderer, from, till)
            || two >= 0 && isMovable && isLastAndMovable(stayAt(two), till)) {
          fewest = 2;
        }
      }
      return fewest;
    }

    /** Its own room is none of these: it takes its nights there itself. */
    private boolean hasOtherRoom(Stay stay) {
      return smallestFree(stay.kind, stay.first, stay.last() + clean) != NONE;
    }

    private boolean isLastAndMovable(Stay stay, int till) {
      return roomAt(stay.room).hinderer(stay.last() + clean + 1, till, NONE) == NONE
          && hasOtherRoom(stay);
    }

    /** Whether the stay could take the nights of one other, so that its own from one night till
     * another are left. */
    private boolean canDriveOut(Stay stay, int from, int till) {
      int itsTill = stay.last() + clean;
      for (int number = 0; number < roomCount; number++) {
        Room room = roomAt(number);
        if (number == stay.room || !room.isOf(stay.kind)) {
          continue;
        }
        int driven = room.hinderer(stay.first, itsTill, NONE);
        if (driven >= 0 && room.hinderer(stay.first, itsTill, driven) == NONE
            && (hasOtherRoom(stayAt(driven)) || canSwap(stayAt(driven), stay, from, till))) {
          return true;
        }
      }
      return false;
    }

    private boolean canSwap(Stay driven, Stay stay, int from, int till) {
      Room room = roomAt(stay.room);
      int itsTill = driven.last() + clean;
      return room.isOf(driven.kind) && (itsTill < from || driven.first > till)
          && room.hinderer(driven.first, itsTill, stay.number) == NONE;
    }

    // ---- whether all is as it must be

    boolean isInOrder() {
      for (int i = 0; i < booked.size(); i++) {
        Stay stay = booked.get(i);
        if (!stay.isBooked() || !roomAt(stay.room).isOf(stay.kind)) {
          return false;
        }
      }
      for (int number = 0; number < roomCount; number++) {
        if (hasMeeting(number)) {
          return false;
        }
      }
      return true;
    }

    private boolean hasMeeting(int number) {
      Arrays.fill(marks, 0);
      boolean isMet = false;
      for (int i = 0; i < booked.size(); i++) {
        Stay stay = booked.get(i);
        if (stay.room == number) {
          isMet |= marksTwice(stay.first, stay.last() + clean);
        }
      }
      Room room = roomAt(number);
      for (int from = 0; from < room.closedTo.length; from++) {
        isMet |= marksTwice(from, room.closedTo[from]);
      }
      return isMet;
    }

    private boolean marksTwice(int from, int till) {
      boolean isTwice = false;
      for (int night = from; night <= till && night >= 0 && night < marks.length; night++) {
        isTwice |= marks[night] > 0;
        marks[night]++;
      }
      return isTwice;
    }

    boolean looksLike(House other) {
      for (int what = 0; what <= 13; what++) {
        if ((what < 9 || what > 11) && total(what) != other.total(what)) {
          return false;
        }
      }
      for (int room = 0; room < roomCount; room++) {
        for (int night = 0; night <= LAST_NIGHT; night++) {
          if (sign(room, night) != other.sign(room, night)) {
            return false;
          }
        }
      }
      return true;
    }
  }

  /** DEALING, in thought only: as many rooms as it needs, of no kind. */
  private static final class Dealer {
    private final int[] rooms;
    private final int[] tills;
    private final int[] takers;

    Dealer() {
      rooms = new int[MOST_STAYS];
      tills = new int[MOST_STAYS];
      takers = new int[TAKEN_NIGHTS];
    }

    int deal(ArrayList<Stay> booked, int clean) {
      Arrays.fill(tills, NONE);
      int needed = 0;
      for (int i = 0; i < booked.size() && i < rooms.length; i++) {
        Stay stay = booked.get(i);
        int room = 0;
        while (room < tills.length - 1 && tills[room] >= stay.first) {
          room++;
        }
        tills[room] = stay.last() + clean;
        rooms[i] = room;
        needed = Math.max(needed, room + 1);
      }
      return needed;
    }

    int roomOf(Stay stay, ArrayList<Stay> booked, int clean) {
      deal(booked, clean);
      for (int i = 0; i < booked.size() && i < rooms.length; i++) {
        if (booked.get(i) == stay) {
          return rooms[i];
        }
      }
      return NONE;
    }

    int peak(ArrayList<Stay> booked, int clean) {
      count(booked, clean);
      int most = 0;
      for (int night = 0; night < takers.length; night++) {
        most = Math.max(most, takers[night]);
      }
      return most;
    }

    int peakNight(ArrayList<Stay> booked, int clean) {
      int most = peak(booked, clean);
      for (int night = 0; night < takers.length && most > 0; night++) {
        if (takers[night] == most) {
          return night;
        }
      }
      return NONE;
    }

    private void count(ArrayList<Stay> booked, int clean) {
      Arrays.fill(takers, 0);
      for (int i = 0; i < booked.size(); i++) {
        Stay stay = booked.get(i);
        int till = stay.last() + clean;
        for (int n = stay.first; n <= till && n >= 0 && n < takers.length; n++) {
          takers[n]++;
        }
      }
    }
  }

  /** What one room could take of those who wait. */
  private static final class Picker {
    /** Those who wait by rising last night, of the same by rising number. */
    private final ArrayList<Stay> row;
    private int clean;
    /** Of each beginning of the row (of 0 stays, of 1 ..) the greatest worth. */
    private final int[] worths;
    private final int[] prices;
    private final boolean[] isPicked;

    Picker() {
      row = new ArrayList<Stay>();
      clean = 0;
      worths = new int[MOST_STAYS + 1];
      prices = new int[TAKEN_NIGHTS];
      isPicked = new boolean[MOST_STAYS];
    }

    /** Those who wait stand by rising number already. */
    void lineUp(ArrayList<Stay> waiting, int cleanNights) {
      clean = cleanNights;
      row.clear();
      for (int i = 0; i < waiting.size(); i++) {
        Stay stay = waiting.get(i);
        int place = row.size();
        while (place > 0 && row.get(place - 1).last() > stay.last()) {
          place--;
        }
        row.add(place, stay);
      }
    }

    int most() {
      pickMost();
      int many = 0;
      for (int i = 0; i < row.size() && i < isPicked.length; i++) {
        many += isPicked[i] ? 1 : 0;
      }
      return many;
    }

    int stabs() {
      int many = 0;
      int stab = NONE;
      for (int i = 0; i < row.size(); i++) {
        Stay stay = row.get(i);
        if (stay.first > stab) {
          stab = stay.last() + clean;
          many++;
        }
      }
      return many;
    }

    int bestWorth() {
      weigh();
      return row.size() < worths.length ? worths[row.size()] : NONE;
    }

    /** Each in turn raises the price of its last night by what it lacks: there it serves most of
     * those that come behind. */
    int leastSum() {
      Arrays.fill(prices, 0);
      int sum = 0;
      for (int i = 0; i < row.size(); i++) {
        Stay stay = row.get(i);
        int till = stay.last() + clean;
        int lack = stay.worth;
        for (int n = stay.first; n <= till && n >= 0 && n < prices.length; n++) {
          lack -= prices[n];
        }
        if (lack > 0 && till >= 0 && till < prices.length) {
          prices[till] += lack;
          sum += lack;
        }
      }
      return sum;
    }

    /** As those picked do not meet, they stand by rising first night in the row too. */
    String picked(boolean isWorth) {
      if (isWorth) {
        pickBest();
      } else {
        pickMost();
      }
      StringBuilder numbers = new StringBuilder();
      for (int i = 0; i < row.size() && i < isPicked.length; i++) {
        if (isPicked[i]) {
          if (numbers.length() > 0) {
            numbers.append('-');
          }
          numbers.append(row.get(i).number);
        }
      }
      return numbers.toString();
    }

    private void pickMost() {
      int taken = NONE;
      for (int i = 0; i < row.size() && i < isPicked.length; i++) {
        Stay stay = row.get(i);
        isPicked[i] = stay.first > taken;
        if (isPicked[i]) {
          taken = stay.last() + clean;
        }
      }
    }

    private void pickBest() {
      weigh();
      int left = Math.min(row.size(), isPicked.length);
      for (int i = left - 1; i >= 0; i--) {
        isPicked[i] = i < left && worths[i + 1] > worths[i];
        if (isPicked[i]) {
          left = aheadOf(i);
        }
      }
    }

    private void weigh() {
      worths[0] = 0;
      for (int i = 0; i < row.size() && i + 1 < worths.length; i++) {
        worths[i + 1] = Math.max(worths[i], worths[aheadOf(i)] + row.get(i).worth);
      }
    }

    /** How many of the row stand ahead of this one and do not meet it: a beginning of the row. */
    private int aheadOf(int place) {
      if (place < 0 || place >= row.size()) {
        return 0;
      }
      int many = place;
      while (many > 0 && row.get(many - 1).last() + clean >= row.get(place).first) {
        many--;
      }
      return many;
    }
  }
}
