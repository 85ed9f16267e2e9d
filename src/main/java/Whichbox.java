/**
 * Couriers, doors and insurers of one town whose scans may lie: boxes with many stories, of which the
 * one counts that fits the scans that are trusted most.
 */
public final class Whichbox {
    /** There is none. */
    public static final int NONE = -1;
    /** Where a box is with its receiver. */
    public static final int RECEIVER = 30;

    private static final int MOST_BOXES = 16;
    private static final int MOST_SCANS = 12;
    private static final int MOST_SIZE = 3;
    private static final int MOST_VALUE = 9999;
    private static final int MOST_TRUST = 9;
    private static final int MOST_MINUTES = 2000;
    private static final int LAST_TIME = 100000;
    private static final int CODES = 1000;

    private static final int COURIERS = 4;
    private static final int DOORS = 10;

    // Who makes scans: the couriers, behind them the doors, and last whoever finds a box.
    private static final int FIRST_DOOR = COURIERS;
    private static final int FINDING = COURIERS + DOORS;

    private static final int TRUST_AT_FIRST = 5;
    private static final int TRUST_OF_JAMMED = 1;
    private static final int TRUST_OF_FINDING = 50;

    private static final int WITH_COURIER = 0;
    private static final int AT_DEPOT = 1;
    private static final int WITH_RECEIVER = 2;

    private static final int DEPOT = 0;
    private static final int FIRST_COURIER_PLACE = 1;
    private static final int LAST_COURIER_PLACE = FIRST_COURIER_PLACE + COURIERS - 1;
    private static final int FIRST_LOCKER = 10;
    private static final int LAST_LOCKER = FIRST_LOCKER + DOORS - 1;

    private static final int KIND_DEPOT = 0;
    private static final int KIND_COURIER = 1;
    private static final int KIND_LOCKER = 2;
    private static final int KIND_RECEIVER = 3;
    private static final int KINDS = 4;

    // Above every time, so that no scan is late enough for it.
    private static final int NEVER = 1000000;

    // From one kind of place (the row) to another place of a kind (the column).
    private static final int[] MINUTES = {
        0, 5, 8, 9,
        5, 10, 3, 4,
        8, 3, 6, 2,
        NEVER, NEVER, NEVER, 0,
    };

    private static final int WRONG_CODES_TO_JAM = 3;
    private static final int FEE_FOR_SIZE = 10;
    private static final int MINUTES_TO_CLAIM = 1000;
    private static final int MINUTES_OF_HOUR = 60;
    private static final int HOURS_WITHOUT_FINE = 24;
    private static final int FINE_FOR_HOUR = 2;

    // How many sets of scans there are. A story's worth is its trust times this, and its set added, so
    // that the greater worth is the greater trust, and of equal trust the greater set.
    private static final int SETS = 1 << MOST_SCANS;

    private final Box[] told = new Box[MOST_BOXES];
    private final Door[] doors = new Door[DOORS];
    private final int[] trusts = new int[COURIERS + DOORS];
    private final Ledger ledger = new Ledger();
    // Rows that every story is weighed in, made once: calls make no rows.
    private final int[] worths = new int[MOST_SCANS];
    private final int[] sums = new int[MOST_SCANS];
    private int toldBoxes = 0;
    private int now = 0;
    private int keeps = 0;

    /** No boxes; time 0. */
    public Whichbox() {
        for (int door = 0; door < DOORS; door++) {
            doors[door] = new Door();
        }
        for (int who = 0; who < FINDING; who++) {
            trusts[who] = TRUST_AT_FIRST;
        }
    }

    // ---- boxes, trust, time

    /** Tells a box, and returns its number. */
    public int box(int size, int value) throws IllegalArgumentException, IllegalStateException {
        if (!isWithin(size, 1, MOST_SIZE) || !isWithin(value, 1, MOST_VALUE)) {
            throw new IllegalArgumentException("size or value is out of range");
        }
        if (toldBoxes >= MOST_BOXES) {
            throw new IllegalStateException("16 boxes were told");
        }
        told[toldBoxes] = new Box(size, value);
        toldBoxes++;
        return toldBoxes - 1;
    }

    /**
     * Sets the trust of a courier or a door, and returns the one that was set ahead of it, also for a door
     * that counts less because it is jammed.
     */
    public int setTrust(int who, int trust) throws IndexOutOfBoundsException, IllegalArgumentException {
        checkWho(who);
        if (!isWithin(trust, 1, MOST_TRUST)) {
            throw new IllegalArgumentException("trust is out of range");
        }
        int had = trusts[who];
        trusts[who] = trust;
        settleAll();
        return had;
    }

    /** Lets minutes pass, and returns the time then. */
    public int pass(int minutes) throws IllegalArgumentException, IllegalStateException {
        if (!isWithin(minutes, 1, MOST_MINUTES)) {
            throw new IllegalArgumentException("minutes is out of range");
        }
        if (now + minutes > LAST_TIME) {
            throw new IllegalStateException("the time would be above 100000");
        }
        now += minutes;
        return now;
    }

    // ---- scans

    /** Scans a box by a courier, and returns the number of the scan. */
    public int scan(int box, int courier, int what)
            throws IndexOutOfBoundsException, IllegalArgumentException, IllegalStateException {
        Box scanned = boxAt(box);
        checkCourier(courier);
        if (!isWithin(what, WITH_COURIER, WITH_RECEIVER)) {
            throw new IllegalArgumentException("what is out of range");
        }
        checkRoomForScan(scanned);
        return addScan(scanned, placeTold(courier, what), courier);
    }

    /** Scans a box by a door, in its locker, and returns the number of the scan. */
    public int lay(int box, int door) throws IndexOutOfBoundsException, IllegalStateException {
        Box laid = boxAt(box);
        Door behind = doorAt(door);
        checkRoomForScan(laid);
        if (laid.size > behind.size) {
            throw new IllegalStateException("the box is greater than the door");
        }
        return addScan(laid, FIRST_LOCKER + door, FIRST_DOOR + door);
    }

    /** Finds a box at a place, and returns the number of the scan. */
    public int find(int box, int place) throws IndexOutOfBoundsException, IllegalStateException {
        Box found = boxAt(box);
        if (kindOf(place) == NONE) {
            throw new IndexOutOfBoundsException("there is no such place");
        }
        checkRoomForScan(found);
        return addScan(found, place, FINDING);
    }

    // ---- doors

    /** Sets the size of a door, and returns the size that it had. */
    public int setDoor(int door, int size)
            throws IndexOutOfBoundsException, IllegalArgumentException, IllegalStateException {
        Door changed = doorAt(door);
        if (!isWithin(size, 1, MOST_SIZE)) {
            throw new IllegalArgumentException("size is out of range");
        }
        if (changed.isKept()) {
            throw new IllegalStateException("the door is kept");
        }
        int had = changed.size;
        changed.size = size;
        return had;
    }

    /** Keeps a door for a box, and returns the code. */
    public int keep(int door, int box) throws IndexOutOfBoundsException, IllegalStateException {
        Door kept = doorAt(door);
        Box awaited = boxAt(box);
        if (kept.isKept() || kept.jammed || kept.size < awaited.size) {
            throw new IllegalStateException("the door is kept, or jammed, or smaller than the box");
        }
        kept.boxAwaited = box;
        kept.code = (37 * box + 11 * door + 101 * keeps) % CODES;
        kept.wrongCodes = 0;
        keeps++;
        return kept.code;
    }

    /** Opens a door that is kept; returns the number of its box, or NONE with a wrong code. */
    public int open(int door, int code)
            throws IndexOutOfBoundsException, IllegalArgumentException, IllegalStateException {
        Door tried = doorAt(door);
        if (!isWithin(code, 0, CODES - 1)) {
            throw new IllegalArgumentException("code is out of range");
        }
        if (!tried.isKept() || tried.jammed) {
            throw new IllegalStateException("the door is not kept, or is jammed");
        }
        if (code != tried.code) {
            countWrongCode(tried);
            return NONE;
        }
        int awaited = tried.boxAwaited;
        tried.boxAwaited = NONE;
        addScan(boxAt(awaited), RECEIVER, FIRST_DOOR + door);
        return awaited;
    }

    /** Jams a door, or mends it, and returns whether it was jammed. */
    public boolean jam(int door, boolean isJammed) throws IndexOutOfBoundsException {
        Door changed = doorAt(door);
        boolean was = changed.jammed;
        changed.jammed = isJammed;
        if (!isJammed) {
            changed.wrongCodes = 0;
        }
        settleAll();
        return was;
    }

    // ---- claims

    /** Claims a box: the insurer pays its value, which is returned. */
    public int claim(int box) throws IndexOutOfBoundsException, IllegalStateException {
        Box claimed = boxAt(box);
        if (claimed.isDelivered() || claimed.insured || claimed.wasScannedAfter(now - MINUTES_TO_CLAIM)) {
            throw new IllegalStateException("the box is delivered, or insured, or was scanned a short time ago");
        }
        claimed.insured = true;
        ledger.payInsured(claimed.value);
        return claimed.value;
    }

    // ---- what is asked: stories

    /** Returns the time. */
    public int time() {
        return now;
    }

    /** Returns how many boxes there are. */
    public int boxes() {
        return toldBoxes;
    }

    /** Returns how many scans a box has. */
    public int scans(int box) throws IndexOutOfBoundsException {
        return boxAt(box).scanCount;
    }

    /** Returns the story of a box that counts, as a set of its scans. */
    public int story(int box) throws IndexOutOfBoundsException {
        return boxAt(box).story;
    }

    /** Returns the same as story, found by going through all sets of scans that are stories. */
    public int storyOfAll(int box) throws IndexOutOfBoundsException {
        Box asked = boxAt(box);
        weighScans(asked);
        return greatestWorth(asked, worths, NONE, 0, 0) % SETS;
    }

    /** Returns the code of the place where a box is. */
    public int placeOf(int box) throws IndexOutOfBoundsException {
        return boxAt(box).whereabouts();
    }

    /** Returns how many scans of a courier or a door are lies now. */
    public int lies(int who) throws IndexOutOfBoundsException {
        checkWho(who);
        int lies = 0;
        for (Box each : told) {
            if (each != null) {
                lies += each.countLies(who);
            }
        }
        return lies;
    }

    // ---- what is asked: debts and doors

    /** Tells whether a box has a fee. */
    public boolean hasFee(int box) throws IndexOutOfBoundsException {
        return boxAt(box).withFee;
    }

    /** Tells whether a box is insured. */
    public boolean isInsured(int box) throws IndexOutOfBoundsException {
        return boxAt(box).insured;
    }

    /** Returns the fees of a courier, those that were undone left out. */
    public int fees(int courier) throws IndexOutOfBoundsException {
        checkCourier(courier);
        return ledger.feeSums[courier];
    }

    /** Returns what insurers have paid, less what they claimed back. */
    public int insurers() {
        return ledger.paidByInsurers;
    }

    /** Returns how many entries the ledger has. */
    public int entries() {
        return ledger.written;
    }

    /** Returns the fine for a box that is in a locker, 0 if it is in none. */
    public int fine(int box) throws IndexOutOfBoundsException {
        Box asked = boxAt(box);
        if (kindOf(asked.whereabouts()) != KIND_LOCKER) {
            return 0;
        }
        int hours = (now - asked.thereSince()) / MINUTES_OF_HOUR;
        return FINE_FOR_HOUR * Math.max(0, hours - HOURS_WITHOUT_FINE);
    }

    /** Tells whether a door is jammed. */
    public boolean isJammed(int door) throws IndexOutOfBoundsException {
        return doorAt(door).jammed;
    }

    /** Returns the number of the box for which a door is kept, NONE if it is not kept. */
    public int keptFor(int door) throws IndexOutOfBoundsException {
        return doorAt(door).boxAwaited;
    }

    // ---- what the calls look at first

    private static boolean isWithin(int number, int least, int most) {
        return number >= least && number <= most;
    }

    private Box boxAt(int box) {
        if (box < 0 || box >= MOST_BOXES || told[box] == null) {
            throw new IndexOutOfBoundsException("there is no such box");
        }
        return told[box];
    }

    private Door doorAt(int door) {
        if (door < 0 || door >= DOORS) {
            throw new IndexOutOfBoundsException("there is no such door");
        }
        return doors[door];
    }

    private static void checkCourier(int courier) {
        if (courier < 0 || courier >= COURIERS) {
            throw new IndexOutOfBoundsException("there is no such courier");
        }
    }

    private static void checkWho(int who) {
        if (who < 0 || who >= FINDING) {
            throw new IndexOutOfBoundsException("there is no such courier or door");
        }
    }

    private static void checkRoomForScan(Box box) {
        if (box.scanCount >= MOST_SCANS) {
            throw new IllegalStateException("the box has 12 scans");
        }
    }

    // ---- places

    private static int placeTold(int courier, int what) {
        if (what == WITH_COURIER) {
            return FIRST_COURIER_PLACE + courier;
        }
        return what == AT_DEPOT ? DEPOT : RECEIVER;
    }

    private static int courierOfPlace(int place) {
        return isWithin(place, FIRST_COURIER_PLACE, LAST_COURIER_PLACE) ? place - FIRST_COURIER_PLACE : NONE;
    }

    /** Returns the kind of the place with a code, NONE if no place has it. */
    private static int kindOf(int place) {
        if (place == DEPOT) {
            return KIND_DEPOT;
        }
        if (isWithin(place, FIRST_COURIER_PLACE, LAST_COURIER_PLACE)) {
            return KIND_COURIER;
        }
        if (isWithin(place, FIRST_LOCKER, LAST_LOCKER)) {
            return KIND_LOCKER;
        }
        return place == RECEIVER ? KIND_RECEIVER : NONE;
    }

    private static int minutesBetween(int from, int to) {
        int fromKind = kindOf(from);
        int toKind = kindOf(to);
        if (from == to) {
            return 0;
        }
        if (fromKind == NONE || toKind == NONE) {
            return NEVER;
        }
        return MINUTES[fromKind * KINDS + toKind];
    }

    // ---- scans and stories

    /** Adds a scan of now, unless the box has as many as it may have; returns its number, or NONE. */
    private int addScan(Box box, int place, int maker) {
        int scan = box.note(now, place, maker);
        settle(box);
        return scan;
    }

    private void countWrongCode(Door door) {
        door.wrongCodes++;
        if (door.wrongCodes >= WRONG_CODES_TO_JAM) {
            door.jammed = true;
            settleAll();
        }
    }

    private int trustOf(int maker) {
        if (!isWithin(maker, 0, FINDING - 1)) {
            return TRUST_OF_FINDING;
        }
        if (maker >= FIRST_DOOR && doors[maker - FIRST_DOOR].jammed) {
            return TRUST_OF_JAMMED;
        }
        return trusts[maker];
    }

    private void weighScans(Box box) {
        for (int scan = 0; scan < box.scanCount; scan++) {
            worths[scan] = trustOf(box.makers[scan]) * SETS + (1 << scan);
        }
    }

    /**
     * Returns the greatest worth of a story and all that go on from it, each one looked at: the story's
     * last scan is the one given, it has the worth and as many scans as given.
     */
    private static int greatestWorth(Box box, int[] worths, int last, int worth, int length) {
        int greatest = worth;
        if (length >= box.scanCount) {
            return greatest;
        }
        for (int next = last + 1; next < box.scanCount; next++) {
            if (box.canFollow(last, next)) {
                int longer = worth + worths[next];
                greatest = Math.max(greatest, greatestWorth(box, worths, next, longer, length + 1));
            }
        }
        return greatest;
    }

    // ---- debts

    // Only scans, trust and jams change a story, and only a story changes debts: other calls need none of it.
    private void settleAll() {
        for (Box each : told) {
            if (each != null) {
                settle(each);
            }
        }
    }

    private void settle(Box box) {
        weighScans(box);
        box.chooseStory(worths, sums);
        boolean isDelivered = box.isDelivered();
        if (isDelivered && box.insured) {
            box.insured = false;
            ledger.claimBack(box.value);
        }
        if (isDelivered && !box.withFee) {
            box.withFee = true;
            box.feeCourier = box.deliverer();
            ledger.writeFee(box.feeCourier, FEE_FOR_SIZE * box.size);
        }
        if (!isDelivered && box.withFee) {
            box.withFee = false;
            ledger.writeFee(box.feeCourier, -FEE_FOR_SIZE * box.size);
        }
    }

    /** A box with its scans, of which the story that counts is chosen anew when their trust changes. */
    private static final class Box {
        // The bit of the depot at the time 0 in a set of scans.
        private static final int START = MOST_SCANS;

        final int size;
        final int value;
        final int[] times = new int[MOST_SCANS];
        final int[] places = new int[MOST_SCANS];
        final int[] makers = new int[MOST_SCANS];
        // For each scan the set of those it can follow in a story: times and places never change.
        final int[] follows = new int[MOST_SCANS];
        int scanCount = 0;
        int story = 0;
        boolean insured = false;
        boolean withFee = false;
        int feeCourier = NONE;

        Box(int size, int value) {
            this.size = size;
            this.value = value;
        }

        /** Notes a scan, unless there are as many as there may be; returns its number, or NONE. */
        int note(int time, int place, int maker) {
            if (scanCount >= MOST_SCANS) {
                return NONE;
            }
            int scan = scanCount;
            times[scan] = time;
            places[scan] = place;
            makers[scan] = maker;
            follows[scan] = scansAheadOf(time, place);
            scanCount++;
            return scan;
        }

        /** Returns the set of scans so far that one at this time and place can follow. */
        private int scansAheadOf(int time, int place) {
            int ahead = minutesBetween(DEPOT, place) <= time ? 1 << START : 0;
            for (int scan = 0; scan < scanCount; scan++) {
                if (minutesBetween(places[scan], place) <= time - times[scan]) {
                    ahead |= 1 << scan;
                }
            }
            return ahead;
        }

        /** Tells whether a story can go on from a scan, or from its start if that is NONE, to the next. */
        boolean canFollow(int scan, int next) {
            int bit = scan == NONE ? START : scan;
            return (follows[next] >> bit & 1) == 1;
        }

        // The best story that ends with a scan is that scan behind the best one that it can follow.
        void chooseStory(int[] worths, int[] sums) {
            int greatest = 0;
            for (int last = 0; last < scanCount; last++) {
                int ahead = canFollow(NONE, last) ? 0 : NONE;
                for (int scan = 0; scan < last; scan++) {
                    if (canFollow(scan, last)) {
                        ahead = Math.max(ahead, sums[scan]);
                    }
                }
                sums[last] = ahead == NONE ? NONE : ahead + worths[last];
                greatest = Math.max(greatest, sums[last]);
            }
            story = greatest % SETS;
        }

        boolean isTrue(int scan) {
            return (story >> scan & 1) == 1;
        }

        int whereabouts() {
            for (int scan = scanCount - 1; scan >= 0; scan--) {
                if (isTrue(scan)) {
                    return places[scan];
                }
            }
            return DEPOT;
        }

        boolean isDelivered() {
            return whereabouts() == RECEIVER;
        }

        /** Returns the courier at whom the story tells the box last, NONE if it tells of none. */
        int deliverer() {
            for (int scan = scanCount - 1; scan >= 0; scan--) {
                int courier = courierOfPlace(places[scan]);
                if (isTrue(scan) && courier != NONE) {
                    return courier;
                }
            }
            return NONE;
        }

        /** Returns since when, by its story, the box has been told nowhere but where it is. */
        int thereSince() {
            int place = whereabouts();
            int since = 0;
            for (int scan = scanCount - 1; scan >= 0; scan--) {
                if (isTrue(scan)) {
                    if (places[scan] != place) {
                        return since;
                    }
                    since = times[scan];
                }
            }
            return since;
        }

        boolean wasScannedAfter(int time) {
            return scanCount > 0 && times[scanCount - 1] > time;
        }

        int countLies(int maker) {
            int lies = 0;
            for (int scan = 0; scan < scanCount; scan++) {
                if (makers[scan] == maker && !isTrue(scan)) {
                    lies++;
                }
            }
            return lies;
        }
    }

    /** A door, and the box that it is kept for. */
    private static final class Door {
        int size = MOST_SIZE;
        boolean jammed = false;
        int boxAwaited = NONE;
        int code = 0;
        int wrongCodes = 0;

        boolean isKept() {
            return boxAwaited != NONE;
        }
    }

    /** What was paid, claimed back, booked and undone. */
    private static final class Ledger {
        final int[] feeSums = new int[COURIERS];
        int paidByInsurers = 0;
        int written = 0;

        void payInsured(int value) {
            paidByInsurers += value;
            written++;
        }

        void claimBack(int value) {
            paidByInsurers -= value;
            written++;
        }

        /** Writes a fee, or undoes it with the amount below 0; one that is no courier's is written, too. */
        void writeFee(int courier, int amount) {
            if (courier >= 0 && courier < COURIERS) {
                feeSums[courier] += amount;
            }
            written++;
        }
    }
}
