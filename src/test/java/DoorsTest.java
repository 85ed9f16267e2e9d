/** Promises 8 to 11, 26 and 27: doors, their codes and jams. */
public final class DoorsTest {
  private static final int[] NO_DOORS = {-1, 10, Integer.MIN_VALUE, Integer.MAX_VALUE};

  public static void main(String[] args) {
    promise8SetDoor();
    promise9Keep();
    promise9Codes();
    promise9WrongKeeps();
    promise10OpenRight();
    promise10OpenWithTwelveScans();
    promise10OpenWrong();
    promise10WrongCodesChangeDebts();
    promise10Refusals();
    promise11And26Jam();
    promise11Mending();
    promise27KeptFor();
    Check.end();
  }

  private static void promise8SetDoor() {
    Whichbox x = Check.oneBox(2, 1, 100);
    Check.due("size at first", x.setDoor(0, 1), 3);
    Check.due("size then", x.setDoor(0, 2), 1);
    Check.due("size of another door", x.setDoor(9, 3), 3);
    for (int door : NO_DOORS) {
      Check.refusedIndex("setDoor of " + door, x, () -> x.setDoor(door, 0));
    }
    int[] sizes = {0, -1, 4, Integer.MIN_VALUE, Integer.MAX_VALUE};
    for (int size : sizes) {
      Check.refusedArgument("setDoor to " + size, x, () -> x.setDoor(0, size));
    }
    int code = x.keep(0, 0);
    Check.refusedState("setDoor of a door that is kept", x, () -> x.setDoor(0, 2));
    Check.refusedArgument("setDoor of it to 4", x, () -> x.setDoor(0, 4));
    x.open(0, code);
    Check.due("size behind it all", x.setDoor(0, 1), 2);
    x.jam(0, true);
    Check.due("size of a jammed door", x.setDoor(0, 3), 1);
  }

  private static void promise9Keep() {
    Whichbox x = new Whichbox();
    for (int box = 0; box < 16; box++) {
      x.box(1, 1);
    }
    Check.due("keep(0, 0)", x.keep(0, 0), 0);
    Check.due("keep(1, 15)", x.keep(1, 15), 555 + 11 + 101);
    Check.due("keep(9, 15)", x.keep(9, 15), 555 + 99 + 202);
    Check.due("keep(8, 15), above 1000", x.keep(8, 15), 555 + 88 + 303);
    Check.due("keep(7, 15), above 1000", x.keep(7, 15), 555 + 77 + 404 - 1000);
    Check.due("keptFor(7)", x.keptFor(7), 15);
    Check.due("a box behind two doors", x.keptFor(8), 15);
    Check.due("entries behind keeps", x.entries(), 0);
    Check.due("scans behind keeps", x.scans(15), 0);
  }

  private static void promise9Codes() {
    Whichbox x = Check.oneBox(1, 1, 100);
    for (int keeps = 0; keeps < 60; keeps++) {
      int door = keeps % 10;
      int code = (11 * door + 101 * keeps) % 1000;
      Check.due("code " + keeps, x.keep(door, 0), code);
      Check.refusedState("a keep of a kept door does not count", x, () -> x.keep(door, 0));
      Check.due("open with it", x.open(door, code), 0);
    }
  }

  private static void promise9WrongKeeps() {
    Whichbox x = Check.oneBox(2, 1, 100);
    x.box(3, 1);
    for (int door : NO_DOORS) {
      Check.refusedIndex("keep of " + door, x, () -> x.keep(door, 0));
      Check.refusedIndex("keep of " + door + " for no box", x, () -> x.keep(door, 2));
    }
    int[] noBoxes = {-1, 2, 16, Integer.MIN_VALUE, Integer.MAX_VALUE};
    for (int box : noBoxes) {
      Check.refusedIndex("keep for " + box, x, () -> x.keep(0, box));
    }
    x.setDoor(0, 2);
    Check.refusedState("keep of a smaller door", x, () -> x.keep(0, 1));
    x.jam(0, true);
    Check.refusedState("keep of a jammed door", x, () -> x.keep(0, 0));
    x.jam(0, false);
    Check.due("keep of a door just great enough", x.keep(0, 0), 0);
    Check.refusedState("keep of a kept door", x, () -> x.keep(0, 0));
    Check.refusedIndex("keep of a kept door for no box", x, () -> x.keep(0, 2));
  }

  private static void promise10OpenRight() {
    Whichbox x = Check.oneBox(2, 1, 20);
    x.box(1, 1);
    x.scan(1, 2, 0);
    x.pass(3);
    x.lay(1, 4);
    int code = x.keep(4, 1);
    x.pass(2);
    Check.due("open with the right code", x.open(4, code), 1);
    Check.due("keptFor then", x.keptFor(4), -1);
    Check.due("scans then", x.scans(1), 3);
    Check.due("place then", x.placeOf(1), 30);
    Check.due("story then", x.story(1), 7);
    Check.due("fees of courier 2 then", x.fees(2), 10);
    Check.due("scans of the other box", x.scans(0), 0);
    Check.refusedState("open again", x, () -> x.open(4, code));
    x.setTrust(8, 9);
    Check.due("lies of the door", x.lies(8), 0);
    x.find(1, 14);
    Check.due("lies of the door when the box is found in its locker", x.lies(8), 1);
  }

  private static void promise10OpenWithTwelveScans() {
    Whichbox x = Check.oneBox(1, 1, 20);
    for (int scan = 0; scan < 12; scan++) {
      x.scan(0, 0, 0);
    }
    int code = x.keep(3, 0);
    x.pass(100);
    Check.due("open for a box with 12 scans", x.open(3, code), 0);
    Check.due("keptFor then", x.keptFor(3), -1);
    Check.due("scans then", x.scans(0), 12);
    Check.due("place then", x.placeOf(0), 1);
    Check.due("hasFee then", x.hasFee(0), false);
  }

  private static void promise10OpenWrong() {
    Whichbox x = Check.oneBox(1, 1, 20);
    int code = x.keep(5, 0);
    Check.due("wrong code", x.open(5, code + 1), -1);
    Check.due("wrong code again", x.open(5, code + 1), -1);
    Check.due("jammed by two", x.isJammed(5), false);
    Check.due("scans by wrong codes", x.scans(0), 0);
    Check.due("keptFor by wrong codes", x.keptFor(5), 0);
    Check.due("right code behind two wrong ones", x.open(5, code), 0);
    int next = x.keep(5, 0);
    Check.due("wrong code, kept anew", x.open(5, 999), -1);
    Check.due("wrong code, kept anew, again", x.open(5, 0), -1);
    Check.due("jammed by two, kept anew", x.isJammed(5), false);
    Check.due("third wrong code", x.open(5, next + 1), -1);
    Check.due("jammed by three", x.isJammed(5), true);
    Check.due("keptFor of the jammed door", x.keptFor(5), 0);
    Check.refusedState("right code at the jammed door", x, () -> x.open(5, next));
    x.keep(6, 0);
    x.open(6, 1);
    Check.due("other doors count for themselves", x.isJammed(6), false);
  }

  private static void promise10WrongCodesChangeDebts() {
    Whichbox x = Check.oneBox(1, 1, 20);
    x.box(1, 1);
    x.setTrust(0, 4);
    x.lay(0, 0);
    x.scan(0, 0, 2);
    Check.due("place by the door", x.placeOf(0), 10);
    x.keep(0, 1);
    x.open(0, 999);
    x.open(0, 999);
    Check.due("place still by the door", x.placeOf(0), 10);
    x.open(0, 999);
    Check.due("place when the door is jammed", x.placeOf(0), 30);
    Check.due("fee then", x.hasFee(0), true);
    Check.due("entries then", x.entries(), 1);
    x.jam(0, false);
    Check.due("fee when it is mended", x.hasFee(0), false);
    Check.due("entries when it is mended", x.entries(), 2);
  }

  private static void promise10Refusals() {
    Whichbox x = Check.oneBox(1, 1, 20);
    for (int door : NO_DOORS) {
      Check.refusedIndex("open of " + door, x, () -> x.open(door, 1000));
    }
    int[] codes = {-1, 1000, Integer.MIN_VALUE, Integer.MAX_VALUE};
    for (int code : codes) {
      Check.refusedArgument("open with " + code + ", not kept", x, () -> x.open(0, code));
    }
    Check.refusedState("open of a door that is not kept", x, () -> x.open(0, 0));
    x.keep(0, 0);
    for (int round = 0; round < 3; round++) {
      for (int code : codes) {
        Check.refusedArgument("open with " + code, x, () -> x.open(0, code));
      }
    }
    Check.due("codes out of range do not count", x.isJammed(0), false);
    x.jam(0, true);
    Check.refusedState("open of a jammed door", x, () -> x.open(0, 0));
    Check.refusedState("open of a jammed door with a wrong code", x, () -> x.open(0, 1));
    x.jam(0, false);
    Check.due("open of the mended door", x.open(0, 0), 0);
  }

  private static void promise11And26Jam() {
    Whichbox x = Check.oneBox(1, 1, 20);
    for (int door = 0; door < 10; door++) {
      Check.due("jam", x.jam(door, true), false);
      Check.due("isJammed", x.isJammed(door), true);
      Check.due("jam again", x.jam(door, true), true);
      Check.due("isJammed still", x.isJammed(door), true);
      if (door < 9) {
        Check.due("isJammed of the next", x.isJammed(door + 1), false);
      }
    }
    Check.due("mend", x.jam(9, false), true);
    Check.due("isJammed behind mending", x.isJammed(9), false);
    Check.due("mend again", x.jam(9, false), false);
    Check.due("entries behind jams", x.entries(), 0);
    for (int door : NO_DOORS) {
      Check.refusedIndex("jam of " + door, x, () -> x.jam(door, true));
      Check.refusedIndex("mend of " + door, x, () -> x.jam(door, false));
      Check.refusedIndex("isJammed of " + door, x, () -> x.isJammed(door));
    }
  }

  private static void promise11Mending() {
    Whichbox x = Check.oneBox(1, 1, 20);
    x.keep(0, 0);
    x.open(0, 1);
    x.open(0, 1);
    x.jam(0, true);
    x.jam(0, false);
    Check.due("keptFor behind mending", x.keptFor(0), 0);
    x.open(0, 1);
    x.open(0, 1);
    Check.due("two wrong codes behind mending", x.isJammed(0), false);
    x.jam(0, false);
    x.open(0, 1);
    x.open(0, 1);
    Check.due("two wrong codes behind mending what was not jammed", x.isJammed(0), false);
    x.open(0, 1);
    Check.due("three wrong codes behind it", x.isJammed(0), true);
    x.jam(0, false);
    Check.due("the code is the same", x.open(0, 0), 0);
  }

  private static void promise27KeptFor() {
    Whichbox x = Check.oneBox(1, 1, 20);
    x.box(1, 1);
    Check.due("keptFor of no box", x.keptFor(9), Whichbox.NONE);
    int code = x.keep(9, 1);
    Check.due("keptFor", x.keptFor(9), 1);
    x.jam(9, true);
    Check.due("keptFor of a jammed door", x.keptFor(9), 1);
    x.jam(9, false);
    x.open(9, code);
    Check.due("keptFor of an opened door", x.keptFor(9), Whichbox.NONE);
    for (int door : NO_DOORS) {
      Check.refusedIndex("keptFor of " + door, x, () -> x.keptFor(door));
    }
  }
}
