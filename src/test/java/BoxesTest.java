/** Promises 1 to 4, 13 and 14: a new object, boxes, trust and time. */
public final class BoxesTest {
  public static void main(String[] args) {
    promise1NewObject();
    promise2And14Boxes();
    promise2WrongBoxes();
    promise3SetTrust();
    promise3TrustOfJammedDoor();
    promise3WrongTrust();
    promise4And13Time();
    promise4WrongMinutes();
    Check.end();
  }

  private static void promise1NewObject() {
    Whichbox x = new Whichbox();
    Check.due("boxes of a new object", x.boxes(), 0);
    Check.due("time of a new object", x.time(), 0);
    Check.due("insurers of a new object", x.insurers(), 0);
    Check.due("entries of a new object", x.entries(), 0);
    for (int door = 0; door < 10; door++) {
      Check.due("isJammed at first", x.isJammed(door), false);
      Check.due("keptFor at first", x.keptFor(door), -1);
      Check.due("size at first", x.setDoor(door, 1), 3);
    }
    for (int who = 0; who < 14; who++) {
      Check.due("lies at first", x.lies(who), 0);
      Check.due("trust at first", x.setTrust(who, 2), 5);
    }
    for (int courier = 0; courier < 4; courier++) {
      Check.due("fees at first", x.fees(courier), 0);
    }
    Check.refusedIndex("placeOf(0) of a new object", x, () -> x.placeOf(0));
    Whichbox other = new Whichbox();
    Check.due("trust of another object", other.setTrust(0, 3), 5);
  }

  private static void promise2And14Boxes() {
    Whichbox x = new Whichbox();
    for (int box = 0; box < 16; box++) {
      Check.due("boxes ahead of box " + box, x.boxes(), box);
      Check.due("box " + box, x.box(1 + box % 3, box == 15 ? 9999 : 1 + box), box);
      Check.due("scans of a new box", x.scans(box), 0);
      Check.due("story of a new box", x.story(box), 0);
      Check.due("placeOf a new box", x.placeOf(box), 0);
      Check.due("hasFee of a new box", x.hasFee(box), false);
      Check.due("isInsured of a new box", x.isInsured(box), false);
      Check.due("fine of a new box", x.fine(box), 0);
    }
    Check.due("boxes", x.boxes(), 16);
    Check.refusedState("a seventeenth box", x, () -> x.box(1, 1));
    Check.refusedArgument("a seventeenth box without size", x, () -> x.box(0, 1));
    Check.due("value of box 15", x.claim(15), 9999);
    Check.due("value of box 0", x.claim(0), 1);
    Check.due("entries behind boxes and two claims", x.entries(), 2);
  }

  private static void promise2WrongBoxes() {
    Whichbox x = new Whichbox();
    int[] sizes = {0, -1, 4, Integer.MIN_VALUE, Integer.MAX_VALUE};
    for (int size : sizes) {
      Check.refusedArgument("box of size " + size, x, () -> x.box(size, 1));
    }
    int[] values = {0, -1, 10000, Integer.MIN_VALUE, Integer.MAX_VALUE};
    for (int value : values) {
      Check.refusedArgument("box of value " + value, x, () -> x.box(1, value));
    }
    Check.due("box behind wrong ones", x.box(3, 1), 0);
  }

  private static void promise3SetTrust() {
    Whichbox x = Check.oneBox(1, 1, 100);
    for (int who = 0; who < 14; who++) {
      Check.due("setTrust(" + who + ", 9)", x.setTrust(who, 9), 5);
      Check.due("setTrust(" + who + ", 1)", x.setTrust(who, 1), 9);
      Check.due("setTrust(" + who + ", 5)", x.setTrust(who, 5), 1);
    }
    x.scan(0, 0, 0);
    x.lay(0, 9);
    Check.due("story of equal trust", x.story(0), 2);
    x.setTrust(0, 6);
    Check.due("story when courier 0 is trusted more", x.story(0), 1);
    x.setTrust(13, 7);
    Check.due("story when door 9 is trusted more", x.story(0), 2);
    x.setTrust(0, 7);
    Check.due("story when both are trusted alike", x.story(0), 2);
  }

  private static void promise3TrustOfJammedDoor() {
    Whichbox x = Check.oneBox(1, 1, 100);
    x.lay(0, 0);
    x.scan(0, 0, 0);
    x.setTrust(0, 2);
    x.setTrust(4, 3);
    Check.due("story for the door", x.story(0), 1);
    x.jam(0, true);
    Check.due("story when the door is jammed", x.story(0), 2);
    Check.due("trust set of a jammed door", x.setTrust(4, 9), 3);
    Check.due("story when the jammed door is set", x.story(0), 2);
    x.jam(0, false);
    Check.due("story when the door is mended", x.story(0), 1);
    Check.due("trust set of the mended door", x.setTrust(4, 1), 9);
    Check.due("story when the door is trusted least", x.story(0), 2);
  }

  private static void promise3WrongTrust() {
    Whichbox x = Check.oneBox(1, 1, 100);
    x.scan(0, 0, 0);
    int[] whos = {-1, 14, Integer.MIN_VALUE, Integer.MAX_VALUE};
    for (int who : whos) {
      Check.refusedIndex("setTrust of " + who, x, () -> x.setTrust(who, 1));
      Check.refusedIndex("setTrust of " + who + " to 0", x, () -> x.setTrust(who, 0));
    }
    int[] trusts = {0, -1, 10, 50, Integer.MIN_VALUE, Integer.MAX_VALUE};
    for (int trust : trusts) {
      Check.refusedArgument("setTrust to " + trust, x, () -> x.setTrust(0, trust));
      Check.refusedArgument("setTrust of a door to " + trust, x, () -> x.setTrust(13, trust));
    }
    Check.due("trust behind wrong ones", x.setTrust(0, 1), 5);
  }

  private static void promise4And13Time() {
    Whichbox x = new Whichbox();
    Check.due("pass(1)", x.pass(1), 1);
    Check.due("pass(2000)", x.pass(2000), 2001);
    Check.due("time", x.time(), 2001);
    Check.passAll(x, 95999);
    Check.due("time later", x.time(), 98000);
    Check.refusedArgument("pass(2001)", x, () -> x.pass(2001));
    Check.due("pass to the last minute", x.pass(2000), 100000);
    Check.refusedState("pass beyond it", x, () -> x.pass(1));
    Check.refusedState("pass far beyond it", x, () -> x.pass(2000));
    Check.refusedArgument("pass(0) there", x, () -> x.pass(0));
    Check.due("time at last", x.time(), 100000);
    Whichbox y = new Whichbox();
    Check.passAll(y, 98500);
    Check.refusedState("pass over the last minute", y, () -> y.pass(1501));
    Check.due("pass just to it", y.pass(1500), 100000);
  }

  private static void promise4WrongMinutes() {
    Whichbox x = new Whichbox();
    int[] wrong = {0, -1, 2001, Integer.MIN_VALUE, Integer.MAX_VALUE};
    for (int minutes : wrong) {
      Check.refusedArgument("pass(" + minutes + ")", x, () -> x.pass(minutes));
    }
    Check.due("time behind wrong minutes", x.time(), 0);
  }
}
