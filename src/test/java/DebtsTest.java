/** Promises 12 and 20 to 25: claims, fees, what insurers paid, the ledger, fines. */
public final class DebtsTest {
  public static void main(String[] args) {
    promise12Claim();
    promise12ClaimSinceTheLastScan();
    promise12WrongClaims();
    promise20And22Fees();
    promise22FeeOfTheCourierThen();
    promise20FeeForNone();
    promise21And23And24Insurance();
    promise25Fine();
    promise25FineSinceTheFirstOfTheLast();
    wrongNumbers();
    Check.end();
  }

  private static void promise12Claim() {
    Whichbox x = Check.oneBox(1, 700, 0);
    x.box(1, 300);
    Check.due("claim without scans", x.claim(0), 700);
    Check.due("isInsured", x.isInsured(0), true);
    Check.due("isInsured of the other", x.isInsured(1), false);
    Check.due("insurers", x.insurers(), 700);
    Check.due("entries", x.entries(), 1);
    Check.refusedState("claim again", x, () -> x.claim(0));
    Check.due("claim of the other", x.claim(1), 300);
    Check.due("insurers of both", x.insurers(), 1000);
    Check.due("entries of both", x.entries(), 2);
    Check.due("placeOf a box that is insured", x.placeOf(0), 0);
  }

  private static void promise12ClaimSinceTheLastScan() {
    Whichbox x = Check.oneBox(1, 700, 20);
    x.scan(0, 0, 0);
    Check.refusedState("claim at once", x, () -> x.claim(0));
    x.pass(500);
    x.scan(0, 1, 0);
    x.pass(999);
    Check.refusedState("claim behind 999 minutes", x, () -> x.claim(0));
    x.pass(1);
    Check.due("claim behind 1000 minutes", x.claim(0), 700);
    Whichbox y = Check.oneBox(1, 700, 3);
    y.find(0, 30);
    Check.due("story of a lie", y.story(0), 0);
    y.pass(999);
    Check.refusedState("claim 999 minutes behind a lie", y, () -> y.claim(0));
    y.pass(1);
    Check.due("claim 1000 minutes behind a lie", y.claim(0), 700);
  }

  private static void promise12WrongClaims() {
    Whichbox x = Check.oneBox(1, 700, 9);
    int[] noBoxes = {-1, 1, 15, 16, Integer.MIN_VALUE, Integer.MAX_VALUE};
    for (int box : noBoxes) {
      Check.refusedIndex("claim(" + box + ")", x, () -> x.claim(box));
    }
    x.scan(0, 0, 2);
    Check.passAll(x, 5000);
    Check.refusedState("claim of a delivered box", x, () -> x.claim(0));
  }

  private static void promise20And22Fees() {
    for (int size = 1; size <= 3; size++) {
      Whichbox x = Check.oneBox(size, 1, 20);
      x.scan(0, 3, 0);
      Check.due("hasFee ahead", x.hasFee(0), false);
      x.pass(4);
      x.scan(0, 0, 2);
      Check.due("hasFee", x.hasFee(0), true);
      Check.due("fees by size", x.fees(3), 10 * size);
      Check.due("fees of who scanned", x.fees(0), 0);
      Check.due("entries", x.entries(), 1);
      x.scan(0, 0, 2);
      x.setTrust(0, 9);
      Check.due("entries behind more of the same", x.entries(), 1);
      x.find(0, 4);
      Check.due("hasFee when undone", x.hasFee(0), false);
      Check.due("fees when undone", x.fees(3), 0);
      Check.due("entries when undone", x.entries(), 2);
      x.pass(4);
      x.find(0, 30);
      Check.due("fees when delivered again", x.fees(3), 10 * size);
      Check.due("entries when delivered again", x.entries(), 3);
    }
    Whichbox y = Check.oneBox(1, 1, 20);
    y.box(3, 1);
    y.find(0, 3);
    y.find(1, 3);
    y.pass(4);
    y.find(0, 30);
    y.find(1, 30);
    Check.due("fees for two boxes, by findings", y.fees(2), 40);
  }

  private static void promise22FeeOfTheCourierThen() {
    Whichbox x = Check.oneBox(2, 1, 20);
    x.scan(0, 0, 0);
    x.scan(0, 1, 0);
    x.pass(4);
    x.scan(0, 2, 2);
    Check.due("fees of courier 1", x.fees(1), 20);
    x.setTrust(0, 9);
    Check.due("story then", x.story(0), 5);
    Check.due("fees of courier 1 stay", x.fees(1), 20);
    Check.due("fees of courier 0 do not come", x.fees(0), 0);
    Check.due("entries then", x.entries(), 1);
    x.find(0, 1);
    Check.due("fees of courier 1 are undone", x.fees(1), 0);
    Check.due("fees of courier 0 are untouched", x.fees(0), 0);
    x.pass(4);
    x.find(0, 30);
    Check.due("fees of courier 0, delivered anew", x.fees(0), 20);
    Check.due("fees of courier 1, delivered anew", x.fees(1), 0);
    Check.due("entries at last", x.entries(), 3);
  }

  private static void promise20FeeForNone() {
    Whichbox x = Check.oneBox(2, 1, 20);
    x.lay(0, 0);
    x.pass(2);
    x.scan(0, 0, 2);
    Check.due("hasFee for none", x.hasFee(0), true);
    Check.due("entries for none", x.entries(), 1);
    for (int courier = 0; courier < 4; courier++) {
      Check.due("fees of a courier", x.fees(courier), 0);
    }
    x.find(0, 10);
    Check.due("hasFee for none, undone", x.hasFee(0), false);
    Check.due("entries for none, undone", x.entries(), 2);
    Whichbox y = Check.oneBox(2, 1, 20);
    y.find(0, 10);
    y.scan(0, 0, 0);
    y.pass(2);
    y.find(0, 30);
    Check.due("story without the courier", y.story(0), 5);
    Check.due("fees of a courier whose scan is a lie", y.fees(0), 0);
    Check.due("hasFee then", y.hasFee(0), true);
  }

  private static void promise21And23And24Insurance() {
    Whichbox x = Check.oneBox(2, 700, 20);
    x.box(1, 40);
    x.claim(0);
    x.claim(1);
    x.scan(0, 1, 0);
    Check.due("isInsured on its way", x.isInsured(0), true);
    x.pass(4);
    x.scan(0, 1, 2);
    Check.due("isInsured when delivered", x.isInsured(0), false);
    Check.due("insurers when claimed back", x.insurers(), 40);
    Check.due("entries when claimed back, and a fee", x.entries(), 4);
    x.find(0, 12);
    Check.due("isInsured when undone", x.isInsured(0), false);
    Check.due("insurers when undone", x.insurers(), 40);
    Check.due("entries when undone", x.entries(), 5);
    x.pass(999);
    Check.refusedState("claim anew too early", x, () -> x.claim(0));
    x.pass(1);
    Check.due("claim anew", x.claim(0), 700);
    Check.due("insurers anew", x.insurers(), 740);
    x.find(0, 30);
    Check.due("insurers at last", x.insurers(), 40);
    Check.due("entries at last", x.entries(), 8);
    Check.due("isInsured of the other", x.isInsured(1), true);
  }

  private static void promise25Fine() {
    int[][] due = {{0, 0}, {1440, 0}, {1499, 0}, {1500, 2}, {1559, 2}, {1560, 4}, {6000, 152}, {90000, 2952}};
    for (int[] each : due) {
      Whichbox x = Check.oneBox(1, 1, 8);
      x.lay(0, 9);
      Check.passAll(x, each[0]);
      Check.due("fine behind " + each[0] + " minutes", x.fine(0), each[1]);
    }
    Whichbox y = Check.oneBox(1, 1, 6000);
    Check.due("fine at the depot", y.fine(0), 0);
    y.scan(0, 0, 0);
    Check.passAll(y, 6000);
    Check.due("fine with a courier", y.fine(0), 0);
    y.scan(0, 0, 2);
    Check.passAll(y, 6000);
    Check.due("fine with the receiver", y.fine(0), 0);
    Check.due("entries: fines are none", y.entries(), 1);
  }

  private static void promise25FineSinceTheFirstOfTheLast() {
    Whichbox x = Check.oneBox(1, 1, 1000);
    x.lay(0, 0);
    Check.passAll(x, 1500);
    x.lay(0, 0);
    Check.due("fine since the first", x.fine(0), 2);
    x.lay(0, 1);
    x.lay(0, 1);
    x.find(0, 10);
    Check.passAll(x, 60);
    Check.due("lies between do not count", x.fine(0), 4);
    x.scan(0, 0, 0);
    x.pass(3);
    x.lay(0, 0);
    Check.due("fine since it came back", x.fine(0), 0);
    Check.passAll(x, 1499);
    Check.due("fine 1499 minutes since", x.fine(0), 0);
    x.pass(1);
    Check.due("fine 1500 minutes since", x.fine(0), 2);
    Whichbox y = Check.oneBox(1, 1, 1000);
    y.lay(0, 0);
    Check.passAll(y, 3000);
    y.lay(0, 1);
    Check.passAll(y, 1500);
    Check.due("fine of the next locker", y.fine(0), 2);
    y.setTrust(4, 1);
    Check.due("fine without a claim", y.fine(0), 2);
  }

  private static void wrongNumbers() {
    Whichbox x = Check.oneBox(1, 1, 100);
    int[] noBoxes = {-1, 1, 15, 16, Integer.MIN_VALUE, Integer.MAX_VALUE};
    for (int box : noBoxes) {
      Check.refusedIndex("hasFee(" + box + ")", x, () -> x.hasFee(box));
      Check.refusedIndex("isInsured(" + box + ")", x, () -> x.isInsured(box));
      Check.refusedIndex("fine(" + box + ")", x, () -> x.fine(box));
    }
    int[] couriers = {-1, 4, 13, Integer.MIN_VALUE, Integer.MAX_VALUE};
    for (int courier : couriers) {
      Check.refusedIndex("fees(" + courier + ")", x, () -> x.fees(courier));
    }
  }
}
