/** Promises 5 to 7 and 15: scans by couriers and doors, findings. */
public final class ScansTest {
  private static final int[] PLACES = {0, 1, 2, 3, 4, 10, 11, 12, 13, 14, 15, 16, 17, 18, 19, 30};
  private static final int[] NO_PLACES = {-1, 5, 6, 9, 20, 21, 29, 31, Integer.MIN_VALUE, Integer.MAX_VALUE};
  private static final int[] NO_BOXES = {-1, 1, 15, 16, Integer.MIN_VALUE, Integer.MAX_VALUE};

  public static void main(String[] args) {
    promise5Scan();
    promise5WrongScans();
    promise6Lay();
    promise6WrongLays();
    promise7Find();
    promise7WrongFindings();
    promise15ScansOfOneBox();
    Check.end();
  }

  private static void promise5Scan() {
    for (int courier = 0; courier < 4; courier++) {
      int by = courier;
      Whichbox x = Check.oneBox(3, 1, 100);
      Check.due("scan with the courier", x.scan(0, by, 0), 0);
      Check.due("place with the courier", x.placeOf(0), 1 + by);
      x.pass(5);
      Check.due("scan at the depot", x.scan(0, by, 1), 1);
      Check.due("place at the depot", x.placeOf(0), 0);
      x.pass(9);
      Check.due("scan with the receiver", x.scan(0, by, 2), 2);
      Check.due("place with the receiver", x.placeOf(0), 30);
      Check.due("story of all", x.story(0), 7);
      Check.due("fees of the courier", x.fees(by), 30);
      Check.due("scans", x.scans(0), 3);
    }
  }

  private static void promise5WrongScans() {
    Whichbox x = Check.oneBox(3, 1, 100);
    for (int box : NO_BOXES) {
      Check.refusedIndex("scan of box " + box, x, () -> x.scan(box, 0, 0));
      Check.refusedIndex("scan of box " + box + " in all ways wrong", x, () -> x.scan(box, 4, 3));
    }
    int[] couriers = {-1, 4, 13, Integer.MIN_VALUE, Integer.MAX_VALUE};
    for (int courier : couriers) {
      Check.refusedIndex("scan by " + courier, x, () -> x.scan(0, courier, 0));
      Check.refusedIndex("scan by " + courier + " of 3", x, () -> x.scan(0, courier, 3));
    }
    int[] whats = {-1, 3, 30, Integer.MIN_VALUE, Integer.MAX_VALUE};
    for (int what : whats) {
      Check.refusedArgument("scan of " + what, x, () -> x.scan(0, 0, what));
    }
    scanTimes(x, 12);
    Check.refusedState("a thirteenth scan", x, () -> x.scan(0, 0, 0));
    Check.refusedArgument("a thirteenth scan of 3", x, () -> x.scan(0, 0, 3));
    Check.refusedIndex("a thirteenth scan by 4", x, () -> x.scan(0, 4, 0));
  }

  private static void scanTimes(Whichbox x, int times) {
    for (int scan = 0; scan < times; scan++) {
      Check.due("scan " + scan, x.scan(0, 0, 0), scan);
      Check.due("scans behind it", x.scans(0), scan + 1);
    }
  }

  private static void promise6Lay() {
    for (int door = 0; door < 10; door++) {
      Whichbox x = Check.oneBox(3, 1, 100);
      Check.due("lay", x.lay(0, door), 0);
      Check.due("place behind door " + door, x.placeOf(0), 10 + door);
      x.setTrust(0, 1);
      x.scan(0, 0, 0);
      Check.due("lies of the door that is trusted more", x.lies(4 + door), 0);
      x.setTrust(0, 6);
      Check.due("lies of the door that is trusted less", x.lies(4 + door), 1);
      Check.due("a door need not be kept", x.keptFor(door), -1);
    }
    Whichbox y = Check.oneBox(1, 1, 8);
    y.jam(3, true);
    Check.due("lay behind a jammed door", y.lay(0, 3), 0);
    Check.due("place behind a jammed door", y.placeOf(0), 13);
  }

  private static void promise6WrongLays() {
    Whichbox x = Check.oneBox(2, 1, 100);
    for (int box : NO_BOXES) {
      Check.refusedIndex("lay of box " + box, x, () -> x.lay(box, 0));
    }
    int[] doors = {-1, 10, Integer.MIN_VALUE, Integer.MAX_VALUE};
    for (int door : doors) {
      Check.refusedIndex("lay behind " + door, x, () -> x.lay(0, door));
    }
    x.setDoor(0, 1);
    Check.refusedState("lay behind a door too small", x, () -> x.lay(0, 0));
    x.setDoor(0, 2);
    Check.due("lay behind a door just great enough", x.lay(0, 0), 0);
    for (int scan = 1; scan < 12; scan++) {
      Check.due("lay", x.lay(0, 9), scan);
    }
    Check.refusedState("a thirteenth scan by a door", x, () -> x.lay(0, 9));
    Check.refusedIndex("a thirteenth scan by no door", x, () -> x.lay(0, 10));
  }

  private static void promise7Find() {
    for (int place : PLACES) {
      Whichbox x = Check.oneBox(3, 1, 100);
      x.setDoor(0, 1);
      Check.due("find", x.find(0, place), 0);
      Check.due("place found " + place, x.placeOf(0), place);
    }
    Whichbox y = Check.oneBox(1, 1, 100);
    y.find(0, 10);
    for (int courier = 0; courier < 4; courier++) {
      y.setTrust(courier, 9);
      y.scan(0, courier, 0);
    }
    Check.due("story of a finding against one of each courier", y.story(0), 1);
    y.scan(0, 1, 0);
    y.scan(0, 1, 0);
    y.scan(0, 1, 0);
    y.scan(0, 1, 0);
    Check.due("story of a finding, 50, against five by 9", y.story(0), 1);
    y.scan(0, 1, 0);
    Check.due("story of a finding, 50, against six by 9", y.story(0), 4 + 32 + 64 + 128 + 256 + 512);
    y.setTrust(1, 8);
    Check.due("story of a finding, 50, against six by 8", y.story(0), 1);
  }

  private static void promise7WrongFindings() {
    Whichbox x = Check.oneBox(2, 1, 100);
    for (int box : NO_BOXES) {
      Check.refusedIndex("find of box " + box, x, () -> x.find(box, 0));
    }
    for (int place : NO_PLACES) {
      Check.refusedIndex("find at " + place, x, () -> x.find(0, place));
    }
    for (int scan = 0; scan < 12; scan++) {
      Check.due("find", x.find(0, 30), scan);
    }
    Check.refusedState("a thirteenth scan, a finding", x, () -> x.find(0, 30));
    Check.refusedIndex("a thirteenth scan at no place", x, () -> x.find(0, 20));
  }

  private static void promise15ScansOfOneBox() {
    Whichbox x = Check.oneBox(1, 1, 100);
    x.box(1, 1);
    x.scan(0, 0, 0);
    x.lay(0, 0);
    x.find(0, 30);
    x.find(1, 30);
    Check.due("scans of box 0, lies among them", x.scans(0), 3);
    Check.due("scans of box 1", x.scans(1), 1);
    Check.refusedIndex("scans(2)", x, () -> x.scans(2));
    Check.refusedIndex("scans(-1)", x, () -> x.scans(-1));
    Check.refusedIndex("scans(16)", x, () -> x.scans(16));
  }
}
