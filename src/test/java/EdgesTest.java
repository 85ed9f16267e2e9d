/** The boundary cases of the document's terms, on both sides of each edge. */
public final class EdgesTest {
  public static void main(String[] args) {
    timesEnd();
    theLastOf512Calls();
    boxesAtTheDepotWhenTold();
    twelfthScanOfEachMaker();
    twelfthScanByACode();
    sizesOfBoxesAndDoors();
    trustOfOneAndNine();
    trustAsItIsNow();
    equalTrustTheGreaterNumber();
    storiesOfTwelveScans();
    everyMinuteOfAWay();
    deliveredByTheLastCourierTold();
    feeByEachKindOfCall();
    claimedBackByEachKindOfCall();
    oneCallForManyBoxes();
    codesAroundThousand();
    threeWrongCodesSinceKept();
    threeWrongCodesSinceMended();
    jammedDoorsStayKept();
    claimAroundThousandMinutes();
    fineAroundWholeHours();
    fineOfFindingsInALocker();
    Check.end();
  }

  private static void timesEnd() {
    Whichbox x = Check.oneBox(1, 77, 98000);
    Check.refusedArgument("pass(2001) that would end beyond it", x, () -> x.pass(2001));
    Check.due("pass to 99999", x.pass(1999), 99999);
    Check.refusedState("pass(2) at 99999", x, () -> x.pass(2));
    Check.due("pass(1) at 99999", x.pass(1), 100000);
    Check.refusedState("pass(1) at 100000", x, () -> x.pass(1));
    Check.due("time at its end", x.time(), 100000);
    Check.due("claim at the end", x.claim(0), 77);
    Check.due("scan at the end", x.scan(0, 0, 2), 0);
    Check.due("place at the end", x.placeOf(0), 30);
    Check.due("claimed back at the end", x.insurers(), 0);
    Whichbox y = Check.oneBox(1, 1, 8);
    y.lay(0, 0);
    Check.passAll(y, 99992);
    Check.due("the greatest fine", y.fine(0), 2 * (99992 / 60 - 24));
    Check.refusedState("pass behind a long fine", y, () -> y.pass(1));
  }

  private static void theLastOf512Calls() {
    Whichbox x = Check.oneBox(1, 1, 0);
    for (int keeps = 0; keeps < 255; keeps++) {
      int door = keeps % 10;
      int code = (11 * door + 101 * keeps) % 1000;
      Check.due("code of keep " + keeps, x.keep(door, 0), code);
      Check.due("open of keep " + keeps, x.open(door, code), 0);
    }
    Check.due("scans, the 512th call", x.scans(0), 12);
  }

  private static void boxesAtTheDepotWhenTold() {
    Whichbox x = new Whichbox();
    x.pass(100);
    Check.due("a box told later", x.box(1, 1), 0);
    Check.due("its scan at once", x.scan(0, 0, 0), 0);
    Check.due("its story, from the time 0", x.story(0), 1);
    Whichbox y = Check.oneBox(1, 1, 0);
    y.find(0, 0);
    Check.due("a finding at the depot at the time 0", y.story(0), 1);
    y.find(0, 1);
    Check.due("a finding elsewhere at the time 0", y.story(0), 1);
    Check.due("the place then", y.placeOf(0), 0);
  }

  private static void twelfthScanOfEachMaker() {
    Whichbox x = Check.oneBox(1, 1, 10);
    x.box(1, 1);
    x.box(1, 1);
    for (int scan = 0; scan < 11; scan++) {
      x.scan(0, 0, 0);
      x.lay(1, 0);
      x.find(2, 1);
    }
    Check.due("the twelfth scan by a courier", x.scan(0, 3, 0), 11);
    Check.due("the twelfth scan by a door", x.lay(1, 9), 11);
    Check.due("the twelfth scan, a finding", x.find(2, 30), 11);
    for (int box = 0; box < 3; box++) {
      int full = box;
      Check.due("scans", x.scans(box), 12);
      Check.refusedState("a thirteenth by a courier", x, () -> x.scan(full, 0, 0));
      Check.refusedState("a thirteenth by a door", x, () -> x.lay(full, 0));
      Check.refusedState("a thirteenth, a finding", x, () -> x.find(full, 0));
    }
    x.box(1, 1);
    Check.due("the first scan of another box", x.scan(3, 0, 0), 0);
  }

  private static void twelfthScanByACode() {
    for (int ahead = 10; ahead <= 12; ahead++) {
      Whichbox x = Check.oneBox(1, 1, 10);
      for (int scan = 0; scan < ahead; scan++) {
        x.scan(0, 0, 0);
      }
      int code = x.keep(0, 0);
      x.pass(4);
      Check.due("open behind " + ahead + " scans", x.open(0, code), 0);
      Check.due("scans behind " + ahead, x.scans(0), Math.min(12, ahead + 1));
      Check.due("place behind " + ahead, x.placeOf(0), ahead < 12 ? 30 : 1);
      Check.due("entries behind " + ahead, x.entries(), ahead < 12 ? 1 : 0);
      Check.due("keptFor behind " + ahead, x.keptFor(0), -1);
    }
  }

  private static void sizesOfBoxesAndDoors() {
    for (int size = 1; size <= 3; size++) {
      for (int door = 1; door <= 3; door++) {
        Whichbox x = Check.oneBox(size, 1, 10);
        Check.due("setDoor", x.setDoor(0, door), 3);
        String sizes = " of " + size + " at a door of " + door;
        if (size <= door) {
          Check.due("lay" + sizes, x.lay(0, 0), 0);
          Check.due("keep" + sizes, x.keep(0, 0), 0);
        } else {
          Check.refusedState("lay" + sizes, x, () -> x.lay(0, 0));
          Check.refusedState("keep" + sizes, x, () -> x.keep(0, 0));
          Check.due("a finding needs no room", x.find(0, 10), 0);
          Check.due("place of what is found", x.placeOf(0), 10);
        }
      }
    }
  }

  private static void trustOfOneAndNine() {
    Whichbox x = Check.oneBox(1, 1, 100);
    Check.due("trust 9", x.setTrust(0, 9), 5);
    Check.due("trust 1", x.setTrust(1, 1), 5);
    x.scan(0, 0, 0);
    for (int scan = 1; scan <= 8; scan++) {
      x.scan(0, 1, 0);
      Check.due("story of 9 against " + scan, x.story(0), 1);
    }
    x.scan(0, 1, 0);
    Check.due("story of 9 against 9, the greater number", x.story(0), 0b11_1111_1110);
    Whichbox y = Check.oneBox(1, 1, 100);
    y.setTrust(0, 9);
    y.setTrust(1, 1);
    for (int scan = 0; scan < 9; scan++) {
      y.scan(0, 1, 0);
    }
    y.scan(0, 0, 0);
    Check.due("story of 9 behind 9", y.story(0), 512);
    y.scan(0, 1, 0);
    Check.due("story of 9 behind 10", y.story(0), 0b101_1111_1111);
  }

  private static void trustAsItIsNow() {
    Whichbox x = Check.oneBox(1, 1, 100);
    x.scan(0, 0, 0);
    x.scan(0, 1, 0);
    Check.due("story of the trust at first", x.story(0), 2);
    x.setTrust(1, 4);
    Check.due("story of the trust set behind the scan", x.story(0), 1);
    Check.due("lies then", x.lies(1), 1);
    x.setTrust(1, 5);
    Check.due("story of the trust set back", x.story(0), 2);
    Check.due("lies of the other then", x.lies(0), 1);
    x.lay(0, 0);
    x.lay(0, 0);
    x.jam(0, true);
    Check.due("story when both scans of the door count 1", x.story(0), 2);
    x.setTrust(1, 2);
    x.setTrust(0, 2);
    Check.due("story when they count as much as a courier", x.story(0), 12);
  }

  private static void equalTrustTheGreaterNumber() {
    Whichbox x = Check.oneBox(1, 1, 100);
    x.setTrust(2, 1);
    x.scan(0, 0, 0);
    x.scan(0, 1, 0);
    x.pass(3);
    x.lay(0, 0);
    Check.due("of two ways to one locker the later number", x.story(0), 6);
    x.pass(3);
    x.scan(0, 2, 0);
    Check.due("what is trusted 1 goes with it", x.story(0), 14);
    Whichbox y = Check.oneBox(1, 1, 100);
    y.setTrust(1, 2);
    y.setTrust(2, 3);
    y.scan(0, 1, 0);
    y.scan(0, 2, 0);
    y.scan(0, 0, 0);
    Check.due("one of 5 against one of 3 and one of 2, apart", y.story(0), 4);
    y.pass(9);
    y.scan(0, 1, 0);
    Check.due("one of 5 against one of 2 behind it", y.story(0), 4);
    y.pass(1);
    y.scan(0, 2, 0);
    Check.due("5 and 3, the greatest trust", y.story(0), 20);
  }

  private static void storiesOfTwelveScans() {
    Whichbox x = Check.oneBox(1, 1, 5);
    for (int scan = 0; scan < 12; scan++) {
      x.scan(0, 0, 0);
    }
    Check.due("story of all twelve", x.story(0), 4095);
    Check.due("storyOfAll of all twelve", x.storyOfAll(0), 4095);
    Whichbox y = Check.oneBox(1, 1, 0);
    for (int scan = 0; scan < 12; scan++) {
      y.find(0, 30);
    }
    Check.due("story of none of twelve", y.story(0), 0);
    Check.due("storyOfAll of none of twelve", y.storyOfAll(0), 0);
    Whichbox z = Check.oneBox(1, 1, 100);
    for (int scan = 0; scan < 12; scan++) {
      z.find(0, 10 + scan % 10);
    }
    Check.due("story of one of twelve places", z.story(0), 0b1000_0000_0010);
    Check.due("storyOfAll of one of twelve places", z.storyOfAll(0), 0b1000_0000_0010);
  }

  private static void everyMinuteOfAWay() {
    int[] places = {1, 10, 2, 11, 12, 0, 12, 0, 3, 4, 30};
    int[] minutes = {5, 3, 3, 3, 6, 8, 8, 8, 5, 10, 4};
    for (int late = 0; late < places.length; late++) {
      Whichbox x = new Whichbox();
      x.box(1, 1);
      int due = 0;
      for (int step = 0; step < places.length; step++) {
        x.pass(step == late ? minutes[step] - 1 : minutes[step]);
        x.find(0, places[step]);
        due |= 1 << step;
      }
      Check.due("story of a way too quick at " + late + " is not whole", x.story(0) != due, true);
      Check.due("storyOfAll of it", x.storyOfAll(0), x.story(0));
    }
    Whichbox y = new Whichbox();
    y.box(1, 1);
    for (int step = 0; step < places.length; step++) {
      y.pass(minutes[step]);
      y.find(0, places[step]);
      Check.due("story of the way up to " + step, y.story(0), (2 << step) - 1);
      Check.due("place on the way", y.placeOf(0), places[step]);
    }
  }

  private static void deliveredByTheLastCourierTold() {
    Whichbox x = Check.oneBox(1, 1, 5);
    x.scan(0, 2, 0);
    x.pass(10);
    x.find(0, 4);
    x.pass(3);
    x.lay(0, 0);
    x.pass(2);
    x.scan(0, 0, 2);
    Check.due("fees of the courier found last", x.fees(3), 10);
    Check.due("fees of the courier who scanned with the receiver", x.fees(0), 0);
    Check.due("fees of the courier ahead", x.fees(2), 0);
    Whichbox y = Check.oneBox(1, 1, 9);
    y.scan(0, 1, 2);
    Check.due("delivered by none: hasFee", y.hasFee(0), true);
    Check.due("delivered by none: fees of who scanned", y.fees(1), 0);
    Check.due("delivered by none: entries", y.entries(), 1);
    y.find(0, 2);
    Check.due("by none, undone: hasFee", y.hasFee(0), false);
    Check.due("by none, undone: entries", y.entries(), 2);
    y.pass(4);
    y.scan(0, 0, 2);
    Check.due("then by courier 1: fees", y.fees(1), 10);
    Check.due("then by courier 1: entries", y.entries(), 3);
    Whichbox z = Check.oneBox(1, 1, 5);
    z.scan(0, 2, 0);
    z.pass(5);
    z.scan(0, 2, 1);
    z.pass(9);
    z.find(0, 30);
    Check.due("by the courier ahead of the depot", z.fees(2), 10);
  }

  /** Box 0 with courier 0, trusted 5, and the receiver, told by courier 1, trusted as given, in one minute. */
  private static Whichbox doubtful(int trust) {
    Whichbox x = Check.oneBox(3, 500, 100);
    x.setTrust(1, trust);
    x.scan(0, 1, 2);
    x.scan(0, 0, 0);
    return x;
  }

  private static void feeByEachKindOfCall() {
    Whichbox x = doubtful(5);
    Check.due("fee undone by a scan: hasFee", x.hasFee(0), false);
    Check.due("fee undone by a scan: entries", x.entries(), 2);
    x.setTrust(1, 6);
    Check.due("fee by setTrust: hasFee", x.hasFee(0), true);
    Check.due("fee by setTrust: entries", x.entries(), 3);
    x.setTrust(1, 6);
    x.setTrust(0, 5);
    Check.due("no entry when nothing changes", x.entries(), 3);
    x.setTrust(0, 6);
    Check.due("fee undone by setTrust: hasFee", x.hasFee(0), false);
    Check.due("fee undone by setTrust: entries", x.entries(), 4);
    x.find(0, 30);
    Check.due("fee by a finding: entries", x.entries(), 5);
    Whichbox y = Check.oneBox(3, 1, 100);
    y.scan(0, 2, 0);
    y.pass(4);
    y.scan(0, 2, 2);
    Check.due("fee by a scan", y.fees(2), 30);
    y.setTrust(4, 4);
    y.lay(0, 0);
    Check.due("no entry for the lie of a door", y.entries(), 1);
    y.lay(0, 0);
    Check.due("fee undone by a door: fees", y.fees(2), 0);
    Check.due("fee undone by a door: entries", y.entries(), 2);
    y.jam(0, true);
    Check.due("fee by a jam", y.fees(2), 30);
    y.jam(0, false);
    Check.due("fee undone by mending", y.fees(2), 0);
    Check.due("fee undone by mending: entries", y.entries(), 4);
    y.keep(0, 0);
    y.open(0, 999);
    y.open(0, 999);
    Check.due("no entry by two wrong codes", y.entries(), 4);
    y.open(0, 999);
    Check.due("fee by the third wrong code", y.fees(2), 30);
    y.jam(0, false);
    y.pass(2);
    Check.due("open", y.open(0, 0), 0);
    Check.due("fee by the right code: hasFee", y.hasFee(0), true);
    Check.due("fee by the right code: entries", y.entries(), 7);
  }

  private static void claimedBackByEachKindOfCall() {
    Whichbox x = doubtful(4);
    Check.refusedState("claim in the minute of its scans", x, () -> x.claim(0));
    x.pass(1000);
    x.claim(0);
    x.setTrust(2, 9);
    Check.due("insured behind what changes no story", x.isInsured(0), true);
    x.setTrust(1, 6);
    Check.due("claimed back by setTrust: isInsured", x.isInsured(0), false);
    Check.due("claimed back by setTrust: insurers", x.insurers(), 0);
    Check.due("claimed back by setTrust: entries, a fee and one undone ahead", x.entries(), 5);
    x.setTrust(1, 4);
    Check.due("claimed anew when not delivered", x.claim(0), 500);
    Check.due("insurers then", x.insurers(), 500);
    x.keep(9, 0);
    x.open(9, 99);
    Check.due("claimed back by a code: isInsured", x.isInsured(0), false);
    Check.due("claimed back by a code: insurers", x.insurers(), 0);
    Whichbox y = Check.oneBox(2, 300, 100);
    y.scan(0, 0, 2);
    y.setTrust(4, 6);
    y.lay(0, 0);
    y.pass(1000);
    y.claim(0);
    Check.due("entries ahead of the jam", y.entries(), 3);
    y.jam(0, true);
    Check.due("claimed back by a jam: insurers", y.insurers(), 0);
    Check.due("claimed back by a jam: entries", y.entries(), 5);
  }

  private static void oneCallForManyBoxes() {
    Whichbox x = new Whichbox();
    for (int box = 0; box < 16; box++) {
      x.box(1 + box % 3, 1 + box);
    }
    x.pass(100);
    x.setTrust(1, 4);
    for (int box = 0; box < 16; box++) {
      x.scan(box, 0, 0);
    }
    x.pass(3);
    for (int box = 0; box < 16; box++) {
      x.scan(box, 1, 2);
      x.scan(box, 0, 1);
    }
    x.pass(1000);
    for (int box = 0; box < 16; box++) {
      x.claim(box);
    }
    Check.due("insurers of sixteen boxes", x.insurers(), 136);
    Check.due("entries of sixteen boxes", x.entries(), 16);
    x.setTrust(1, 9);
    Check.due("insurers when one call delivers all", x.insurers(), 0);
    Check.due("entries when one call delivers all", x.entries(), 48);
    for (int box = 0; box < 16; box++) {
      Check.due("hasFee of " + box, x.hasFee(box), true);
      Check.due("isInsured of " + box, x.isInsured(box), false);
    }
    Check.due("lies of courier 0, in all boxes", x.lies(0), 32);
    x.setTrust(0, 9);
    Check.due("entries when all are undone", x.entries(), 64);
  }

  /** Keeps and opens door 0 for box 0 as often. */
  private static void keepOften(Whichbox x, int times) {
    for (int keeps = 0; keeps < times; keeps++) {
      x.open(0, x.keep(0, 0));
    }
  }

  private static void codesAroundThousand() {
    Whichbox x = boxes(8);
    keepOften(x, 7);
    Check.due("the greatest code", x.keep(3, 7), 999);
    Check.due("the code just beyond it", x.keep(4, 4), 0);
    Check.due("open with 0", x.open(4, 0), 4);
    Check.due("a wrong code of 0 for 999", x.open(3, 0), -1);
    Check.due("open with 999", x.open(3, 999), 7);
    Whichbox y = boxes(16);
    Check.due("code of nothing but the box", y.keep(0, 15), 555);
    Check.due("code of the door and one keep", y.keep(9, 0), 200);
    Check.refusedState("a keep that is refused", y, () -> y.keep(9, 0));
    Check.due("code of two keeps, as the refused one does not count", y.keep(1, 1), 37 + 11 + 202);
    y.open(1, 0);
    y.open(1, 250);
    Check.due("code of three keeps, as an open does not count", y.keep(1, 1), 37 + 11 + 303);
  }

  private static Whichbox boxes(int count) {
    Whichbox x = new Whichbox();
    for (int box = 0; box < count; box++) {
      x.box(1, 1);
    }
    return x;
  }

  private static void wrongCodes(Whichbox x, int door, int times, boolean isJammedThen) {
    for (int time = 0; time < times; time++) {
      Check.due("wrong code", x.open(door, 998), -1);
    }
    Check.due("isJammed behind " + times + " wrong codes", x.isJammed(door), isJammedThen);
  }

  private static void threeWrongCodesSinceKept() {
    Whichbox x = boxes(2);
    x.keep(0, 0);
    x.keep(9, 1);
    wrongCodes(x, 0, 2, false);
    wrongCodes(x, 9, 2, false);
    wrongCodes(x, 9, 1, true);
    Check.due("the other door is not jammed", x.isJammed(0), false);
    Check.due("the right code behind two wrong ones", x.open(0, 0), 0);
    Check.due("kept again", x.keep(0, 1), 37 + 202);
    wrongCodes(x, 0, 2, false);
    Check.refusedArgument("a code of 1000 does not count", x, () -> x.open(0, 1000));
    Check.refusedArgument("a code of -1 does not count", x, () -> x.open(0, -1));
    wrongCodes(x, 0, 1, true);
    Check.refusedState("a fourth wrong code", x, () -> x.open(0, 998));
  }

  private static void threeWrongCodesSinceMended() {
    Whichbox x = boxes(1);
    x.keep(0, 0);
    for (int round = 0; round < 3; round++) {
      wrongCodes(x, 0, 2, false);
      wrongCodes(x, 0, 1, true);
      Check.due("mended", x.jam(0, false), true);
    }
    wrongCodes(x, 0, 2, false);
    Check.due("jammed by hand", x.jam(0, true), false);
    Check.due("mended again", x.jam(0, false), true);
    wrongCodes(x, 0, 2, false);
    wrongCodes(x, 0, 1, true);
    x.jam(0, true);
    x.jam(0, false);
    Check.due("the code of the door that was mended", x.open(0, 0), 0);
    x.keep(0, 0);
    wrongCodes(x, 0, 2, false);
  }

  private static void jammedDoorsStayKept() {
    Whichbox x = boxes(1);
    x.keep(0, 0);
    wrongCodes(x, 0, 3, true);
    Check.due("keptFor", x.keptFor(0), 0);
    Check.refusedState("keep", x, () -> x.keep(0, 0));
    Check.refusedState("setDoor", x, () -> x.setDoor(0, 3));
    x.jam(0, false);
    Check.due("keptFor behind mending", x.keptFor(0), 0);
    Check.refusedState("keep behind mending", x, () -> x.keep(0, 0));
    x.open(0, 0);
    Check.due("setDoor behind opening", x.setDoor(0, 1), 3);
    Check.due("keep behind opening", x.keep(0, 0), 101);
  }

  private static void claimAroundThousandMinutes() {
    Whichbox x = Check.oneBox(1, 9999, 0);
    x.box(1, 1);
    x.find(0, 0);
    Check.refusedState("claim at the time 0 with a scan", x, () -> x.claim(0));
    Check.due("claim at the time 0 without scans", x.claim(1), 1);
    x.pass(999);
    Check.refusedState("claim at 999 of a scan at 0", x, () -> x.claim(0));
    x.pass(1);
    Check.due("claim at 1000 of a scan at 0", x.claim(0), 9999);
    x.find(0, 0);
    Check.due("insured also when it is scanned behind", x.isInsured(0), true);
    Check.refusedState("claim of what is insured", x, () -> x.claim(0));
    Whichbox y = Check.oneBox(1, 5, 10);
    y.lay(0, 0);
    y.pass(2);
    y.find(0, 30);
    Check.passAll(y, 3000);
    Check.refusedState("claim of what is delivered", y, () -> y.claim(0));
    y.find(0, 10);
    y.pass(999);
    Check.refusedState("claim 999 minutes behind the finding", y, () -> y.claim(0));
    y.pass(1);
    Check.due("place of what is not delivered any more", y.placeOf(0), 10);
    Check.due("claim 1000 minutes behind the finding", y.claim(0), 5);
  }

  private static void fineAroundWholeHours() {
    for (int hours = 24; hours < 28; hours++) {
      Whichbox x = Check.oneBox(1, 1, 10);
      x.lay(0, 4);
      Check.passAll(x, 60 * hours - 1);
      Check.due("fine a minute ahead of " + hours, x.fine(0), 2 * Math.max(0, hours - 25));
      x.pass(1);
      Check.due("fine of " + hours, x.fine(0), 2 * (hours - 24));
      x.lay(0, 4);
      Check.due("fine when it is scanned again", x.fine(0), 2 * (hours - 24));
      x.setTrust(8, 6);
      x.scan(0, 0, 2);
      Check.due("lies of the courier", x.lies(0), 1);
      Check.due("fine in the locker, the receiver a lie", x.fine(0), 2 * (hours - 24));
      x.find(0, 30);
      Check.due("place in the end", x.placeOf(0), 30);
      Check.due("fine in the end", x.fine(0), 0);
    }
  }

  private static void fineOfFindingsInALocker() {
    for (int place : new int[] {0, 1, 4, 10, 19, 30}) {
      Whichbox x = Check.oneBox(1, 1, 10);
      x.find(0, place);
      Check.passAll(x, 1500);
      Check.due("fine of a box found at " + place, x.fine(0), place == 10 || place == 19 ? 2 : 0);
    }
    Whichbox y = Check.oneBox(1, 1, 10);
    y.find(0, 10);
    Check.passAll(y, 1440);
    y.lay(0, 1);
    y.lay(0, 1);
    Check.passAll(y, 60);
    y.lay(0, 0);
    Check.due("story: the lies too late for the locker between", y.story(0), 0b1111);
    Check.due("fine of the locker where it is again", y.fine(0), 0);
    y.jam(1, true);
    Check.due("fine when the door between is jammed, and still true", y.fine(0), 0);
    Whichbox z = Check.oneBox(1, 1, 10);
    z.lay(0, 0);
    Check.passAll(z, 1500);
    z.lay(0, 1);
    z.lay(0, 0);
    Check.due("fine when the other locker is a lie", z.fine(0), 2);
    z.setTrust(5, 9);
    Check.due("story when the other door is trusted more", z.story(0), 3);
    Check.due("fine of the other locker then", z.fine(0), 0);
  }
}
