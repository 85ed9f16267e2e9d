/** Promises 16 to 19: the story that counts, the places of boxes, and lies. */
public final class StoriesTest {
  private static final int[] PLACES = {0, 1, 2, 3, 4, 10, 11, 12, 13, 14, 15, 16, 17, 18, 19, 30};

  public static void main(String[] args) {
    minutesFromTheDepot();
    minutesBetweenPlaces();
    promise16GreatestTrust();
    promise16GreatestSetOfEqualTrust();
    promise16OnlyNeighboursCount();
    promise16JammedDoorIsTrusted1();
    promise16FindingIsTrusted50();
    promise17StoryOfAll();
    promise18PlaceOf();
    promise19Lies();
    wrongNumbers();
    Check.end();
  }

  /** The minutes that the document tells; -1 for never. */
  private static int minutes(int from, int to) {
    if (from == to) {
      return 0;
    }
    if (from == 30) {
      return -1;
    }
    String kinds = kind(from) + kind(to);
    switch (kinds) {
      case "DC": case "CD": return 5;
      case "CC": return 10;
      case "CL": case "LC": return 3;
      case "LL": return 6;
      case "DL": case "LD": return 8;
      case "DR": return 9;
      case "CR": return 4;
      case "LR": return 2;
      default: throw new IllegalStateException(kinds);
    }
  }

  private static String kind(int place) {
    return place == 0 ? "D" : place < 10 ? "C" : place < 20 ? "L" : "R";
  }

  private static void minutesFromTheDepot() {
    for (int place : PLACES) {
      int least = minutes(0, place);
      Whichbox x = Check.oneBox(1, 1, least);
      x.find(0, place);
      Check.due("story of " + place + " as early as may be", x.story(0), 1);
      if (least > 0) {
        Whichbox y = Check.oneBox(1, 1, least - 1);
        y.find(0, place);
        Check.due("story of " + place + " too early", y.story(0), 0);
        Check.due("place then", y.placeOf(0), 0);
      }
    }
  }

  private static void minutesBetweenPlaces() {
    for (int from : PLACES) {
      for (int to : PLACES) {
        int least = minutes(from, to);
        String way = "from " + from + " to " + to;
        if (least >= 0) {
          Check.due("story " + way, storyOfTwo(from, to, least), 3);
        } else {
          Check.due("story " + way, storyOfTwo(from, to, 90000), 2);
        }
        if (least > 0) {
          Check.due("story too early " + way, storyOfTwo(from, to, least - 1), 2);
        }
      }
    }
  }

  private static int storyOfTwo(int from, int to, int minutes) {
    Whichbox x = Check.oneBox(1, 1, 10);
    x.find(0, from);
    Check.passAll(x, minutes);
    x.find(0, to);
    return x.story(0);
  }

  private static void promise16GreatestTrust() {
    Whichbox x = Check.oneBox(1, 1, 100);
    x.setTrust(0, 4);
    x.setTrust(1, 3);
    x.setTrust(2, 2);
    x.scan(0, 0, 0);
    x.scan(0, 1, 0);
    x.scan(0, 2, 0);
    Check.due("story of 4 against 3 and 2 apart", x.story(0), 1);
    x.pass(9);
    x.scan(0, 2, 0);
    Check.due("story of 4 against 2 and 2, the greater number", x.story(0), 12);
    x.setTrust(2, 1);
    Check.due("story of 4 against 1 and 1", x.story(0), 1);
    x.pass(1);
    x.scan(0, 1, 0);
    Check.due("story of 4 and 3", x.story(0), 1 + 16);
    x.find(0, 19);
    Check.due("story of a finding 10 minutes behind", x.story(0), 1 + 32);
  }

  private static void promise16GreatestSetOfEqualTrust() {
    Whichbox x = Check.oneBox(1, 1, 100);
    for (int courier = 0; courier < 4; courier++) {
      x.scan(0, courier, 0);
      Check.due("story of equal trust", x.story(0), 1 << courier);
    }
    Whichbox y = Check.oneBox(1, 1, 100);
    y.setTrust(0, 6);
    y.setTrust(1, 3);
    y.setTrust(2, 3);
    y.scan(0, 1, 0);
    y.pass(3);
    y.lay(0, 0);
    y.setTrust(4, 3);
    y.scan(0, 0, 0);
    Check.due("6 as scan 2 or 3 and 3 as scans 0 and 1", y.story(0), 4);
    y.setTrust(0, 5);
    Check.due("5 as scan 2 or 3 and 3 as scans 0 and 1", y.story(0), 3);
  }

  private static void promise16OnlyNeighboursCount() {
    Whichbox x = Check.oneBox(1, 1, 5);
    x.scan(0, 0, 0);
    x.pass(3);
    x.lay(0, 0);
    x.pass(3);
    x.scan(0, 1, 0);
    Check.due("courier to courier by a locker in 6 minutes", x.story(0), 7);
    x.jam(0, true);
    Check.due("the same, as the door is jammed", x.story(0), 7);
    Whichbox y = Check.oneBox(1, 1, 100);
    y.scan(0, 0, 2);
    y.scan(0, 0, 2);
    Check.due("receiver to receiver", y.story(0), 3);
    y.pass(2000);
    y.find(0, 10);
    Check.due("a finding behind the receiver", y.story(0), 4);
    Check.due("the place then", y.placeOf(0), 10);
  }

  private static void promise16JammedDoorIsTrusted1() {
    Whichbox x = Check.oneBox(1, 1, 100);
    x.setTrust(0, 1);
    x.setTrust(4, 9);
    x.scan(0, 0, 0);
    x.lay(0, 0);
    Check.due("the door that is trusted 9", x.story(0), 2);
    x.jam(0, true);
    Check.due("the door that is jammed, behind a courier trusted 1", x.story(0), 2);
    x.scan(0, 0, 0);
    Check.due("the door that is jammed, ahead of a courier trusted 1", x.story(0), 5);
    Whichbox y = Check.oneBox(1, 1, 100);
    y.setTrust(0, 1);
    y.lay(0, 0);
    y.scan(0, 0, 0);
    y.jam(0, true);
    Check.due("the courier trusted 1, behind the jammed door", y.story(0), 2);
  }

  private static void promise16FindingIsTrusted50() {
    Whichbox x = Check.oneBox(1, 1, 100);
    x.find(0, 10);
    scanFifty(x);
    Check.due("a finding ahead of scans trusted 50 together", x.story(0), 0b111111_0);
    Whichbox y = Check.oneBox(1, 1, 100);
    scanFifty(y);
    y.find(0, 10);
    Check.due("a finding behind scans trusted 50 together", y.story(0), 64);
  }

  /** Tells five scans trusted 9 and one trusted 5, all at one place. */
  private static void scanFifty(Whichbox x) {
    x.setTrust(0, 9);
    for (int scan = 0; scan < 5; scan++) {
      x.scan(0, 0, 1);
    }
    x.scan(0, 1, 1);
  }

  private static void promise17StoryOfAll() {
    Whichbox x = Check.oneBox(1, 1, 9);
    x.box(1, 1);
    Check.due("storyOfAll without scans", x.storyOfAll(0), 0);
    for (int scan = 0; scan < 12; scan++) {
      x.scan(0, scan % 4, 0);
      Check.due("storyOfAll", x.storyOfAll(0), x.story(0));
      x.pass(3 + scan % 5);
      x.scan(1, 0, 0);
      Check.due("storyOfAll of one courier", x.storyOfAll(1), (2 << scan) - 1);
    }
    x.setTrust(2, 9);
    Check.due("storyOfAll when trust changes", x.storyOfAll(0), x.story(0));
    x.setTrust(2, 1);
    Check.due("storyOfAll when trust changes again", x.storyOfAll(0), x.story(0));
    Whichbox y = Check.oneBox(1, 1, 8);
    y.find(0, 30);
    Check.due("storyOfAll of a scan too early", y.storyOfAll(0), 0);
    y.lay(0, 0);
    y.scan(0, 0, 0);
    y.setTrust(0, 6);
    Check.due("storyOfAll by trust", y.storyOfAll(0), 4);
    y.setTrust(0, 5);
    Check.due("storyOfAll by number", y.storyOfAll(0), 4);
    y.setTrust(0, 4);
    Check.due("storyOfAll by trust of the door", y.storyOfAll(0), 2);
  }

  private static void promise18PlaceOf() {
    Whichbox x = Check.oneBox(1, 1, 4);
    Check.due("place without scans", x.placeOf(0), 0);
    x.scan(0, 3, 0);
    Check.due("place by a lie", x.placeOf(0), 0);
    x.pass(1);
    x.scan(0, 3, 0);
    Check.due("place with courier 3", x.placeOf(0), 4);
    x.pass(3);
    x.lay(0, 7);
    x.scan(0, 0, 0);
    Check.due("place in the locker, behind it a lie", x.placeOf(0), 17);
    x.pass(2);
    x.scan(0, 0, 2);
    Check.due("place with the receiver", x.placeOf(0), Whichbox.RECEIVER);
  }

  private static void promise19Lies() {
    Whichbox x = Check.oneBox(1, 1, 100);
    x.box(1, 1);
    x.scan(0, 0, 0);
    x.scan(0, 1, 0);
    x.scan(1, 0, 2);
    x.lay(1, 9);
    x.lay(1, 9);
    Check.due("lies of courier 0, of two boxes", x.lies(0), 2);
    Check.due("lies of courier 1", x.lies(1), 0);
    Check.due("lies of door 9", x.lies(13), 0);
    x.find(1, 30);
    Check.due("lies of door 9 against the receiver", x.lies(13), 2);
    Check.due("lies of courier 0 then", x.lies(0), 1);
    x.setTrust(0, 6);
    Check.due("lies of courier 0, trusted more", x.lies(0), 0);
    Check.due("lies of courier 1, trusted less", x.lies(1), 1);
    Whichbox y = Check.oneBox(1, 1, 1);
    y.open(2, y.keep(2, 0));
    Check.due("a door's lie by its code", y.lies(6), 1);
    Check.due("no lie of another door", y.lies(5), 0);
  }

  private static void wrongNumbers() {
    Whichbox x = Check.oneBox(1, 1, 100);
    int[] noBoxes = {-1, 1, 15, 16, Integer.MIN_VALUE, Integer.MAX_VALUE};
    for (int box : noBoxes) {
      Check.refusedIndex("story(" + box + ")", x, () -> x.story(box));
      Check.refusedIndex("storyOfAll(" + box + ")", x, () -> x.storyOfAll(box));
      Check.refusedIndex("placeOf(" + box + ")", x, () -> x.placeOf(box));
    }
    int[] whos = {-1, 14, Integer.MIN_VALUE, Integer.MAX_VALUE};
    for (int who : whos) {
      Check.refusedIndex("lies(" + who + ")", x, () -> x.lies(who));
    }
  }
}
