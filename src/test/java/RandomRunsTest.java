import java.util.ArrayList;
import java.util.List;
import java.util.Random;

/**
 * Runs of 512 calls, always the same ones, each answer held against a town told once more in the plainest
 * way: every set of scans is tried, and the debts are gone through behind every call.
 */
public final class RandomRunsTest {
  private static final int RUNS = 400;
  private static final int CALLS = 512;
  private static final int INDEX = -1001;
  private static final int ARGUMENT = -1002;
  private static final int STATE = -1003;

  public static void main(String[] args) {
    for (int run = 0; run < RUNS; run++) {
      oneRun(run);
    }
    Check.end();
  }

  private static void oneRun(int seed) {
    Random chance = new Random(seed);
    Whichbox x = new Whichbox();
    Town town = new Town();
    int boxes = 1 + chance.nextInt(4);
    for (int call = 0; call < CALLS; call++) {
      int[] made = call < boxes ? new int[] {0, 1 + chance.nextInt(3), 1 + chance.nextInt(9999), 0}
          : anyCall(chance, x, town);
      Check.due("run " + seed + ", call " + call + ": " + told(made), answer(x, made), town.answer(made));
    }
    lookAtAll("run " + seed, x, town);
  }

  private static String told(int[] made) {
    return Town.NAMES[made[0]] + "(" + made[1] + ", " + made[2] + ", " + made[3] + ")";
  }

  /** A call with its arguments, mostly ones that are in range. */
  private static int[] anyCall(Random chance, Whichbox x, Town town) {
    int name = Town.OFTEN[chance.nextInt(Town.OFTEN.length)];
    int box = number(chance, Math.max(1, x.boxes()));
    int door = number(chance, 10);
    switch (name) {
      case 0: return new int[] {name, number(chance, 4), number(chance, 10000), 0};
      case 1: return new int[] {name, number(chance, 14), number(chance, 10), 0};
      case 2: return new int[] {name, minutes(chance), 0, 0};
      case 3: return new int[] {name, box, number(chance, 4), number(chance, 3)};
      case 4: return new int[] {name, box, door, 0};
      case 5: return new int[] {name, box, place(chance), 0};
      case 6: return new int[] {name, door, number(chance, 4), 0};
      case 7: return new int[] {name, door, box, 0};
      case 8: return new int[] {name, door, code(chance, town, door), 0};
      case 9: return new int[] {name, door, chance.nextInt(3) == 0 ? 1 : 0, 0};
      case 17: return new int[] {name, number(chance, 14), 0, 0};
      case 20: return new int[] {name, number(chance, 4), 0, 0};
      case 24: case 25: return new int[] {name, door, 0, 0};
      default: return new int[] {name, box, 0, 0};
    }
  }

  private static int number(Random chance, int count) {
    return chance.nextInt(40) == 0 ? chance.nextInt(60) - 20 : chance.nextInt(count);
  }

  private static int minutes(Random chance) {
    int kind = chance.nextInt(40);
    return kind == 0 ? chance.nextInt(2200) - 50 : kind < 3 ? 990 + chance.nextInt(20) : 1 + chance.nextInt(7);
  }

  private static int place(Random chance) {
    int kind = chance.nextInt(8);
    return kind == 0 ? 30 : kind == 1 ? number(chance, 32) : kind < 4 ? 10 + chance.nextInt(10) : chance.nextInt(5);
  }

  private static int code(Random chance, Town town, int door) {
    boolean isRight = door >= 0 && door < 10 && chance.nextInt(3) != 0;
    return isRight ? town.codes[door] : number(chance, 1000);
  }

  private static int answer(Whichbox x, int[] made) {
    try {
      return answerOf(x, made[0], made[1], made[2], made[3]);
    } catch (IndexOutOfBoundsException e) {
      return e.getClass() == IndexOutOfBoundsException.class ? INDEX : -2000;
    } catch (IllegalArgumentException e) {
      return ARGUMENT;
    } catch (IllegalStateException e) {
      return STATE;
    }
  }

  private static int answerOf(Whichbox x, int name, int a, int b, int c) {
    switch (name) {
      case 0: return x.box(a, b);
      case 1: return x.setTrust(a, b);
      case 2: return x.pass(a);
      case 3: return x.scan(a, b, c);
      case 4: return x.lay(a, b);
      case 5: return x.find(a, b);
      case 6: return x.setDoor(a, b);
      case 7: return x.keep(a, b);
      case 8: return x.open(a, b);
      case 9: return x.jam(a, b == 1) ? 1 : 0;
      case 10: return x.claim(a);
      case 11: return x.time();
      case 12: return x.boxes();
      case 13: return x.scans(a);
      case 14: return x.story(a);
      case 15: return x.storyOfAll(a);
      case 16: return x.placeOf(a);
      case 17: return x.lies(a);
      case 18: return x.hasFee(a) ? 1 : 0;
      case 19: return x.isInsured(a) ? 1 : 0;
      case 20: return x.fees(a);
      case 21: return x.insurers();
      case 22: return x.entries();
      case 23: return x.fine(a);
      case 24: return x.isJammed(a) ? 1 : 0;
      default: return x.keptFor(a);
    }
  }

  private static void lookAtAll(String run, Whichbox x, Town town) {
    for (int name = 11; name < Town.NAMES.length; name++) {
      for (int a = -1; a < 17; a++) {
        int[] made = {name, a, 0, 0};
        Check.due(run + " at its end: " + told(made), answer(x, made), town.answer(made));
      }
    }
  }

  /** What the document says, told once more. */
  private static final class Town {
    static final String[] NAMES = {"box", "setTrust", "pass", "scan", "lay", "find", "setDoor", "keep", "open",
        "jam", "claim", "time", "boxes", "scans", "story", "storyOfAll", "placeOf", "lies", "hasFee", "isInsured",
        "fees", "insurers", "entries", "fine", "isJammed", "keptFor"};
    static final int[] OFTEN = {0, 1, 1, 1, 2, 2, 2, 2, 2, 3, 3, 3, 4, 4, 5, 6, 7, 7, 7, 8, 8, 8, 8, 9, 9, 10, 10, 11,
        12, 13, 14, 15, 16, 16, 17, 17, 18, 19, 20, 21, 22, 23, 24, 25};

    private final List<Parcel> parcels = new ArrayList<>();
    private final int[] trusts = {5, 5, 5, 5, 5, 5, 5, 5, 5, 5, 5, 5, 5, 5};
    private final int[] sizes = {3, 3, 3, 3, 3, 3, 3, 3, 3, 3};
    private final boolean[] jams = new boolean[10];
    private final int[] kept = {-1, -1, -1, -1, -1, -1, -1, -1, -1, -1};
    final int[] codes = new int[10];
    private final int[] wrong = new int[10];
    private final int[] fees = new int[4];
    private int keeps = 0;
    private int time = 0;
    private int paid = 0;
    private int entries = 0;

    int answer(int[] made) {
      int answer = made[0] < 11 ? changed(made[0], made[1], made[2], made[3]) : asked(made[0], made[1]);
      if (made[0] < 11) {
        settle();
      }
      return answer;
    }

    private boolean noBox(int box) {
      return box < 0 || box >= parcels.size();
    }

    private static boolean out(int number, int least, int most) {
      return number < least || number > most;
    }

    private int changed(int name, int a, int b, int c) {
      switch (name) {
        case 0: return tell(a, b);
        case 1: return trust(a, b);
        case 2: return wait(a);
        case 3: return scan(a, b, c);
        case 4: return lay(a, b);
        case 5: return find(a, b);
        case 6: return resize(a, b);
        case 7: return keep(a, b);
        case 8: return open(a, b);
        case 9: return jam(a, b == 1);
        default: return claim(a);
      }
    }

    private int tell(int size, int value) {
      if (out(size, 1, 3) || out(value, 1, 9999)) {
        return ARGUMENT;
      }
      if (parcels.size() == 16) {
        return STATE;
      }
      parcels.add(new Parcel(size, value));
      return parcels.size() - 1;
    }

    private int trust(int who, int trust) {
      if (out(who, 0, 13)) {
        return INDEX;
      }
      if (out(trust, 1, 9)) {
        return ARGUMENT;
      }
      int had = trusts[who];
      trusts[who] = trust;
      return had;
    }

    private int wait(int minutes) {
      if (out(minutes, 1, 2000)) {
        return ARGUMENT;
      }
      if (time + minutes > 100000) {
        return STATE;
      }
      time += minutes;
      return time;
    }

    private int added(int box, int place, int who) {
      Parcel parcel = parcels.get(box);
      if (parcel.seen.size() == 12) {
        return STATE;
      }
      parcel.seen.add(new int[] {time, place, who});
      return parcel.seen.size() - 1;
    }

    private int scan(int box, int courier, int what) {
      if (noBox(box) || out(courier, 0, 3)) {
        return INDEX;
      }
      return out(what, 0, 2) ? ARGUMENT : added(box, what == 0 ? courier + 1 : what == 1 ? 0 : 30, courier);
    }

    private int lay(int box, int door) {
      if (noBox(box) || out(door, 0, 9)) {
        return INDEX;
      }
      return parcels.get(box).size > sizes[door] ? STATE : added(box, 10 + door, 4 + door);
    }

    private int find(int box, int place) {
      boolean isPlace = !out(place, 0, 4) || !out(place, 10, 19) || place == 30;
      return noBox(box) || !isPlace ? INDEX : added(box, place, 14);
    }

    private int resize(int door, int size) {
      if (out(door, 0, 9)) {
        return INDEX;
      }
      if (out(size, 1, 3)) {
        return ARGUMENT;
      }
      if (kept[door] >= 0) {
        return STATE;
      }
      int had = sizes[door];
      sizes[door] = size;
      return had;
    }

    private int keep(int door, int box) {
      if (out(door, 0, 9) || noBox(box)) {
        return INDEX;
      }
      if (kept[door] >= 0 || jams[door] || sizes[door] < parcels.get(box).size) {
        return STATE;
      }
      kept[door] = box;
      wrong[door] = 0;
      codes[door] = (37 * box + 11 * door + 101 * keeps++) % 1000;
      return codes[door];
    }

    private int open(int door, int code) {
      if (out(door, 0, 9)) {
        return INDEX;
      }
      if (out(code, 0, 999)) {
        return ARGUMENT;
      }
      if (kept[door] < 0 || jams[door]) {
        return STATE;
      }
      if (code != codes[door]) {
        wrong[door]++;
        jams[door] = wrong[door] == 3;
        return -1;
      }
      int box = kept[door];
      kept[door] = -1;
      added(box, 30, 4 + door);
      return box;
    }

    private int jam(int door, boolean isJammed) {
      if (out(door, 0, 9)) {
        return INDEX;
      }
      int was = jams[door] ? 1 : 0;
      jams[door] = isJammed;
      wrong[door] = isJammed ? wrong[door] : 0;
      return was;
    }

    private int claim(int box) {
      if (noBox(box)) {
        return INDEX;
      }
      Parcel parcel = parcels.get(box);
      boolean isRecent = false;
      for (int[] scan : parcel.seen) {
        isRecent |= time - scan[0] < 1000;
      }
      if (placeOf(parcel) == 30 || parcel.insured || isRecent) {
        return STATE;
      }
      parcel.insured = true;
      paid += parcel.value;
      entries++;
      return parcel.value;
    }

    private void settle() {
      for (Parcel parcel : parcels) {
        boolean isDelivered = placeOf(parcel) == 30;
        if (isDelivered && parcel.insured) {
          parcel.insured = false;
          paid -= parcel.value;
          entries++;
        }
        if (isDelivered != parcel.fee) {
          parcel.feeFor = isDelivered ? deliverer(parcel) : parcel.feeFor;
          if (parcel.feeFor >= 0) {
            fees[parcel.feeFor] += (isDelivered ? 10 : -10) * parcel.size;
          }
          parcel.fee = isDelivered;
          entries++;
        }
      }
    }

    private int asked(int name, int a) {
      if (name == 11 || name == 12) {
        return name == 11 ? time : parcels.size();
      }
      if (name == 21 || name == 22) {
        return name == 21 ? paid : entries;
      }
      if (name == 17) {
        return out(a, 0, 13) ? INDEX : lies(a);
      }
      if (name == 20) {
        return out(a, 0, 3) ? INDEX : fees[a];
      }
      if (name >= 24) {
        return out(a, 0, 9) ? INDEX : name == 25 ? kept[a] : jams[a] ? 1 : 0;
      }
      return noBox(a) ? INDEX : askedOf(name, parcels.get(a));
    }

    private int askedOf(int name, Parcel parcel) {
      switch (name) {
        case 13: return parcel.seen.size();
        case 16: return placeOf(parcel);
        case 18: return parcel.fee ? 1 : 0;
        case 19: return parcel.insured ? 1 : 0;
        case 23: return fine(parcel);
        default: return story(parcel);
      }
    }

    private int lies(int who) {
      int lies = 0;
      for (Parcel parcel : parcels) {
        int story = story(parcel);
        for (int k = 0; k < parcel.seen.size(); k++) {
          lies += parcel.seen.get(k)[2] == who && (story & 1 << k) == 0 ? 1 : 0;
        }
      }
      return lies;
    }

    private int trustNow(int who) {
      return who == 14 ? 50 : who > 3 && jams[who - 4] ? 1 : trusts[who];
    }

    /** Tries every set of scans; what a set was found to be is kept as long as the trust stays the same. */
    private int story(Parcel parcel) {
      StringBuilder key = new StringBuilder();
      for (int[] scan : parcel.seen) {
        key.append(trustNow(scan[2])).append(' ');
      }
      if (key.toString().equals(parcel.storyKey)) {
        return parcel.storyFound;
      }
      int best = 0;
      int bestTrust = 0;
      for (int set = 1; set < 1 << parcel.seen.size(); set++) {
        int trust = trustOfSet(parcel, set);
        if (trust >= bestTrust) {
          best = set;
          bestTrust = trust;
        }
      }
      parcel.storyKey = key.toString();
      parcel.storyFound = best;
      return best;
    }

    private int trustOfSet(Parcel parcel, int set) {
      int[] at = {0, 0};
      int trust = 0;
      for (int k = 0; k < parcel.seen.size(); k++) {
        if ((set & 1 << k) != 0) {
          int[] scan = parcel.seen.get(k);
          if (scan[0] - at[0] < minutes(at[1], scan[1])) {
            return -1;
          }
          trust += trustNow(scan[2]);
          at = scan;
        }
      }
      return trust;
    }

    private static int minutes(int from, int to) {
      if (from == to) {
        return 0;
      }
      if (from == 30) {
        return Integer.MAX_VALUE;
      }
      if (to == 30) {
        return from == 0 ? 9 : from < 10 ? 4 : 2;
      }
      boolean isOneCourier = from > 0 && from < 10 || to > 0 && to < 10;
      boolean isOneLocker = from >= 10 || to >= 10;
      if (from == 0 || to == 0) {
        return isOneCourier ? 5 : 8;
      }
      return isOneCourier && isOneLocker ? 3 : isOneCourier ? 10 : 6;
    }

    private List<int[]> told(Parcel parcel) {
      List<int[]> told = new ArrayList<>();
      int story = story(parcel);
      for (int k = 0; k < parcel.seen.size(); k++) {
        if ((story & 1 << k) != 0) {
          told.add(parcel.seen.get(k));
        }
      }
      return told;
    }

    private int placeOf(Parcel parcel) {
      List<int[]> told = told(parcel);
      return told.isEmpty() ? 0 : told.get(told.size() - 1)[1];
    }

    private int deliverer(Parcel parcel) {
      int courier = -1;
      for (int[] scan : told(parcel)) {
        courier = scan[1] >= 1 && scan[1] <= 4 ? scan[1] - 1 : courier;
      }
      return courier;
    }

    private int fine(Parcel parcel) {
      int place = 0;
      int since = 0;
      for (int[] scan : told(parcel)) {
        since = scan[1] == place ? since : scan[0];
        place = scan[1];
      }
      return place < 10 || place > 19 ? 0 : 2 * Math.max(0, (time - since) / 60 - 24);
    }
  }

  private static final class Parcel {
    final int size;
    final int value;
    final List<int[]> seen = new ArrayList<>();
    boolean insured = false;
    boolean fee = false;
    int feeFor = -1;
    String storyKey = "";
    int storyFound = 0;

    Parcel(int size, int value) {
      this.size = size;
      this.value = value;
    }
  }
}
