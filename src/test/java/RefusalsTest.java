/**
 * Refused calls, row by row of the throws clauses: which of several exceptions is thrown, and that nothing has
 * changed behind it. What cannot be asked (trust, sizes, codes, values, wrong codes) is brought out by calls that
 * follow, against a twin that was never called wrongly.
 */
public final class RefusalsTest {
  private static final Class<? extends RuntimeException> INDEX = IndexOutOfBoundsException.class;
  private static final Class<? extends RuntimeException> ARGUMENT = IllegalArgumentException.class;
  private static final Class<? extends RuntimeException> STATE = IllegalStateException.class;

  private static final int LOW = Integer.MIN_VALUE;
  private static final int HIGH = Integer.MAX_VALUE;
  // The busy town has boxes 0 to 4, door 0 kept, door 1 jammed and small, door 2 of size 2, door 3 kept and jammed.
  private static final int[] NO_BOXES = {-1, 5, 15, 16, 30, LOW, HIGH};
  private static final int[] NO_DOORS = {-1, 10, 13, LOW, HIGH};
  private static final int[] NO_COURIERS = {-1, 4, 13, LOW, HIGH};
  private static final int[] NO_WHOS = {-1, 14, LOW, HIGH};
  private static final int[] NO_PLACES = {-1, 5, 9, 20, 29, 31, LOW, HIGH};
  private static final int[] NO_SIZES = {0, 4, -1, LOW, HIGH};
  private static final int[] NO_VALUES = {0, 10000, -1, LOW, HIGH};
  private static final int[] NO_TRUSTS = {0, 10, -1, 50, LOW, HIGH};
  private static final int[] NO_MINUTES = {0, 2001, -1, LOW, HIGH};
  private static final int[] NO_WHATS = {-1, 3, 30, LOW, HIGH};
  private static final int[] NO_CODES = {-1, 1000, LOW, HIGH};
  private static final int FULL = 3;

  /** How the object and its twin come to where a call is refused. */
  interface Past {
    Whichbox made();
  }

  interface Call {
    void make(Whichbox x);
  }

  public static void main(String[] args) {
    promise2Box();
    promise3SetTrust();
    promise4Pass();
    promise5Scan();
    promise6Lay();
    promise7Find();
    promise8SetDoor();
    promise9Keep();
    promise10Open();
    promise11Jam();
    promise12Claim();
    promises15To27Asked();
    Check.end();
  }

  private static Whichbox busy() {
    Whichbox x = Check.oneBox(2, 700, 3000);
    x.box(1, 40);
    x.box(3, 9999);
    x.box(1, 1);
    x.box(3, 500);
    x.claim(2);
    x.scan(1, 1, 2);
    x.find(4, 3);
    x.pass(990);
    x.lay(0, 5);
    for (int scan = 0; scan < 12; scan++) {
      x.scan(FULL, scan % 4, 0);
    }
    x.setTrust(0, 7);
    x.setTrust(12, 2);
    x.keep(0, 0);
    x.open(0, 1);
    x.open(0, 1);
    x.setDoor(1, 1);
    x.jam(1, true);
    x.setDoor(2, 2);
    x.keep(3, 1);
    x.jam(3, true);
    return x;
  }

  private static Whichbox sixteenBoxes() {
    Whichbox x = new Whichbox();
    for (int box = 0; box < 16; box++) {
      x.box(1 + box % 3, 100 * (box + 1));
    }
    return x;
  }

  private static Whichbox atMinute(int minute) {
    Whichbox x = busy();
    Check.passAll(x, minute - x.time());
    return x;
  }

  /** Makes the call often enough that anything it counted would be seen. */
  private static void refused(String call, Past past, Class<? extends RuntimeException> due, Call made) {
    Whichbox x = past.made();
    for (int time = 0; time < 3; time++) {
      Check.same(call + " throws", thrownBy(x, made), due.getSimpleName());
    }
    Whichbox twin = past.made();
    Check.same(call + ": what is asked behind it", Check.stateOf(x), Check.stateOf(twin));
    Check.same(call + ": what follows behind it", whatFollows(x), whatFollows(twin));
  }

  private static void inBusyTown(String call, Class<? extends RuntimeException> due, Call made) {
    refused(call, RefusalsTest::busy, due, made);
  }

  private static String thrownBy(Whichbox x, Call made) {
    try {
      made.make(x);
      return "nothing";
    } catch (RuntimeException e) {
      return e.getClass().getSimpleName();
    }
  }

  /** The answers of calls that bring out what cannot be asked. */
  private static String whatFollows(Whichbox x) {
    StringBuilder all = new StringBuilder();
    for (int door = 0; door < 10; door++) {
      all.append(answer(x, x.keptFor(door) < 0 ? "setDoor" : "openWrong", door));
      all.append(answer(x, "openRight", door)).append(answer(x, "mend", door));
      all.append(answer(x, "openRight", door)).append(answer(x, "keep", door));
    }
    for (int who = 0; who < 14; who++) {
      all.append(answer(x, "setTrust", who));
    }
    all.append(answer(x, "pass", 1000)).append(answer(x, "pass", 1));
    for (int box = 0; box < 16; box++) {
      all.append(answer(x, "claim", box));
    }
    all.append(answer(x, "box", 0)).append(answer(x, "find", 0)).append(answer(x, "find", 4));
    return all.append(Check.stateOf(x)).toString();
  }

  private static String answer(Whichbox x, String name, int number) {
    try {
      return name + ' ' + number + ": " + answerOf(x, name, number) + '\n';
    } catch (RuntimeException e) {
      return name + ' ' + number + " throws " + e.getClass().getSimpleName() + '\n';
    }
  }

  private static String answerOf(Whichbox x, String name, int number) {
    switch (name) {
      case "setDoor": return "" + x.setDoor(number, 3);
      case "openWrong": return "" + x.open(number, 999);
      // The codes of the busy town: of door 0 as kept first, of door 3 as kept for box 1 behind it.
      case "openRight": return "" + x.open(number, number == 3 ? 37 + 33 + 101 : 0);
      case "mend": return "" + x.jam(number, false);
      case "keep": return "" + x.keep(number, 1);
      case "setTrust": return "" + x.setTrust(number, 5);
      case "pass": return "" + x.pass(number);
      case "claim": return "" + x.claim(number);
      case "box": return "" + x.box(3, 9);
      default: return "" + x.find(number, 30);
    }
  }

  private static void promise2Box() {
    for (int size : NO_SIZES) {
      inBusyTown("box of size " + size, ARGUMENT, x -> x.box(size, 1));
      refused("a seventeenth box of size " + size, RefusalsTest::sixteenBoxes, ARGUMENT, x -> x.box(size, 1));
    }
    for (int value : NO_VALUES) {
      inBusyTown("box of value " + value, ARGUMENT, x -> x.box(3, value));
      refused("a seventeenth box of value " + value, RefusalsTest::sixteenBoxes, ARGUMENT, x -> x.box(3, value));
    }
    refused("a seventeenth box", RefusalsTest::sixteenBoxes, STATE, x -> x.box(3, 9999));
  }

  private static void promise3SetTrust() {
    for (int who : NO_WHOS) {
      inBusyTown("setTrust of " + who, INDEX, x -> x.setTrust(who, 9));
      inBusyTown("setTrust of " + who + " to 10", INDEX, x -> x.setTrust(who, 10));
    }
    for (int trust : NO_TRUSTS) {
      inBusyTown("setTrust of a courier to " + trust, ARGUMENT, x -> x.setTrust(0, trust));
      inBusyTown("setTrust of a door to " + trust, ARGUMENT, x -> x.setTrust(12, trust));
      inBusyTown("setTrust of a jammed door to " + trust, ARGUMENT, x -> x.setTrust(5, trust));
    }
  }

  private static void promise4Pass() {
    for (int minutes : NO_MINUTES) {
      inBusyTown("pass(" + minutes + ")", ARGUMENT, x -> x.pass(minutes));
      refused("pass(" + minutes + ") at the end", () -> atMinute(100000), ARGUMENT, x -> x.pass(minutes));
    }
    refused("pass(1) at the end", () -> atMinute(100000), STATE, x -> x.pass(1));
    refused("pass(2000) at the end", () -> atMinute(100000), STATE, x -> x.pass(2000));
    refused("pass(2) a minute ahead of it", () -> atMinute(99999), STATE, x -> x.pass(2));
    refused("pass(2000) 1999 minutes ahead of it", () -> atMinute(98001), STATE, x -> x.pass(2000));
  }

  private static void promise5Scan() {
    for (int box : NO_BOXES) {
      inBusyTown("scan of box " + box, INDEX, x -> x.scan(box, 0, 0));
      inBusyTown("scan of box " + box + " by nobody", INDEX, x -> x.scan(box, 4, 0));
      inBusyTown("scan of box " + box + " of nothing", INDEX, x -> x.scan(box, 0, 3));
    }
    for (int courier : NO_COURIERS) {
      inBusyTown("scan by " + courier, INDEX, x -> x.scan(0, courier, 2));
      inBusyTown("scan by " + courier + " of nothing", INDEX, x -> x.scan(0, courier, 3));
      inBusyTown("a thirteenth scan by " + courier, INDEX, x -> x.scan(FULL, courier, 0));
      inBusyTown("a thirteenth scan by " + courier + " of nothing", INDEX, x -> x.scan(FULL, courier, 3));
    }
    for (int what : NO_WHATS) {
      inBusyTown("scan of " + what, ARGUMENT, x -> x.scan(0, 3, what));
      inBusyTown("a thirteenth scan of " + what, ARGUMENT, x -> x.scan(FULL, 3, what));
    }
    for (int what = 0; what <= 2; what++) {
      int told = what;
      inBusyTown("a thirteenth scan of what " + told, STATE, x -> x.scan(FULL, 3, told));
    }
  }

  private static void promise6Lay() {
    for (int box : NO_BOXES) {
      inBusyTown("lay of box " + box, INDEX, x -> x.lay(box, 9));
      inBusyTown("lay of box " + box + " behind no door", INDEX, x -> x.lay(box, 10));
    }
    for (int door : NO_DOORS) {
      inBusyTown("lay behind " + door, INDEX, x -> x.lay(0, door));
      inBusyTown("a thirteenth scan behind " + door, INDEX, x -> x.lay(FULL, door));
    }
    inBusyTown("a thirteenth scan by a door", STATE, x -> x.lay(FULL, 9));
    inBusyTown("lay of size 2 behind size 1", STATE, x -> x.lay(0, 1));
    inBusyTown("lay of size 3 behind size 2", STATE, x -> x.lay(2, 2));
    inBusyTown("lay of size 3 behind size 1", STATE, x -> x.lay(2, 1));
  }

  private static void promise7Find() {
    for (int box : NO_BOXES) {
      inBusyTown("find of box " + box, INDEX, x -> x.find(box, 30));
      inBusyTown("find of box " + box + " at no place", INDEX, x -> x.find(box, 5));
    }
    for (int place : NO_PLACES) {
      inBusyTown("find at " + place, INDEX, x -> x.find(0, place));
      inBusyTown("a thirteenth scan, at " + place, INDEX, x -> x.find(FULL, place));
    }
    inBusyTown("a thirteenth scan, a finding", STATE, x -> x.find(FULL, 30));
  }

  private static void promise8SetDoor() {
    for (int door : NO_DOORS) {
      inBusyTown("setDoor of " + door, INDEX, x -> x.setDoor(door, 1));
      inBusyTown("setDoor of " + door + " to 0", INDEX, x -> x.setDoor(door, 0));
    }
    for (int size : NO_SIZES) {
      inBusyTown("setDoor to " + size, ARGUMENT, x -> x.setDoor(2, size));
      inBusyTown("setDoor of a kept door to " + size, ARGUMENT, x -> x.setDoor(0, size));
    }
    for (int size = 1; size <= 3; size++) {
      int set = size;
      inBusyTown("setDoor of a kept door, size " + set, STATE, x -> x.setDoor(0, set));
      inBusyTown("setDoor of a kept and jammed door, size " + set, STATE, x -> x.setDoor(3, set));
    }
  }

  private static void promise9Keep() {
    for (int door : NO_DOORS) {
      inBusyTown("keep of " + door, INDEX, x -> x.keep(door, 0));
      inBusyTown("keep of " + door + " for no box", INDEX, x -> x.keep(door, 5));
    }
    for (int box : NO_BOXES) {
      inBusyTown("keep for " + box, INDEX, x -> x.keep(9, box));
      inBusyTown("keep of a kept door for " + box, INDEX, x -> x.keep(0, box));
      inBusyTown("keep of a jammed door for " + box, INDEX, x -> x.keep(1, box));
    }
    inBusyTown("keep of a door kept for another box", STATE, x -> x.keep(0, 1));
    inBusyTown("keep of a door kept for the same box", STATE, x -> x.keep(0, 0));
    inBusyTown("keep of a jammed door", STATE, x -> x.keep(1, 1));
    inBusyTown("keep of a kept and jammed door", STATE, x -> x.keep(3, 1));
    inBusyTown("keep of size 2 for size 3", STATE, x -> x.keep(2, 2));
  }

  private static void promise10Open() {
    for (int door : NO_DOORS) {
      inBusyTown("open of " + door, INDEX, x -> x.open(door, 0));
      inBusyTown("open of " + door + " with 1000", INDEX, x -> x.open(door, 1000));
    }
    for (int code : NO_CODES) {
      inBusyTown("open of a kept door with " + code, ARGUMENT, x -> x.open(0, code));
      inBusyTown("open of a door that is not kept with " + code, ARGUMENT, x -> x.open(2, code));
      inBusyTown("open of a jammed door with " + code, ARGUMENT, x -> x.open(1, code));
      inBusyTown("open of a kept and jammed door with " + code, ARGUMENT, x -> x.open(3, code));
    }
    inBusyTown("open of a door that is not kept", STATE, x -> x.open(2, 0));
    inBusyTown("open of a jammed door that is not kept", STATE, x -> x.open(1, 0));
    inBusyTown("open of a kept and jammed door with its code", STATE, x -> x.open(3, 37 + 33 + 101));
    inBusyTown("open of a kept and jammed door with a wrong code", STATE, x -> x.open(3, 999));
  }

  private static void promise11Jam() {
    for (int door : NO_DOORS) {
      inBusyTown("jam of " + door, INDEX, x -> x.jam(door, true));
      inBusyTown("mending of " + door, INDEX, x -> x.jam(door, false));
    }
  }

  private static void promise12Claim() {
    for (int box : NO_BOXES) {
      inBusyTown("claim of " + box, INDEX, x -> x.claim(box));
    }
    inBusyTown("claim of a box scanned now", STATE, x -> x.claim(0));
    inBusyTown("claim of an insured box", STATE, x -> x.claim(2));
    inBusyTown("claim of a box scanned 990 minutes ago", STATE, x -> x.claim(4));
    refused("claim of a delivered box, long ago", () -> atMinute(9000), STATE, x -> x.claim(1));
  }

  private static void promises15To27Asked() {
    for (int box : NO_BOXES) {
      inBusyTown("scans(" + box + ")", INDEX, x -> x.scans(box));
      inBusyTown("story(" + box + ")", INDEX, x -> x.story(box));
      inBusyTown("storyOfAll(" + box + ")", INDEX, x -> x.storyOfAll(box));
      inBusyTown("placeOf(" + box + ")", INDEX, x -> x.placeOf(box));
      inBusyTown("hasFee(" + box + ")", INDEX, x -> x.hasFee(box));
      inBusyTown("isInsured(" + box + ")", INDEX, x -> x.isInsured(box));
      inBusyTown("fine(" + box + ")", INDEX, x -> x.fine(box));
    }
    for (int who : NO_WHOS) {
      inBusyTown("lies(" + who + ")", INDEX, x -> x.lies(who));
    }
    for (int courier : NO_COURIERS) {
      inBusyTown("fees(" + courier + ")", INDEX, x -> x.fees(courier));
    }
    for (int door : NO_DOORS) {
      inBusyTown("isJammed(" + door + ")", INDEX, x -> x.isJammed(door));
      inBusyTown("keptFor(" + door + ")", INDEX, x -> x.keptFor(door));
    }
    for (int box = 0; box < 16; box++) {
      int last = box;
      Past told = () -> boxesTold(last + 1);
      Check.due("story of the last box of " + (last + 1), told.made().story(last), 0);
      refused("story of the next box behind " + last, told, INDEX, x -> x.story(last + 1));
    }
  }

  private static Whichbox boxesTold(int count) {
    Whichbox x = new Whichbox();
    for (int box = 0; box < count; box++) {
      x.box(1, 1);
    }
    return x;
  }
}
