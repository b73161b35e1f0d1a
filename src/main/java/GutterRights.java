import java.util.Arrays;

/**
 * A quarter of eleven houses along which rain goes by spouts, hour by hour. The document
 * (../shared/DOC.md) tells what each call does; words in capitals here are its terms.
 */
public final class GutterRights {

    private static final int LOW = -1000001;
    private static final int BEYOND = 0;
    private static final int FULL = 1;
    private static final int KIND = 2;
    private static final int NONE = 3;
    private static final int STATE = 4;
    private static final int MISSING = 5;
    private static final int SIZE = 6;
    private static final int FINDINGS = 7;

    private static final int HOUSES = 11;
    private static final int LAST_HOUSE = 10;
    private static final int ALL_HOUSES = 2047;
    private static final int SPOTS = 10;
    private static final int SHEETS = 4;
    private static final int NOTHING = -1;

    private static final int MOST_WATER = 9999;
    private static final int MOST_NEED = 99;
    private static final int MOST_HOLDS = 999;
    private static final int MOST_DRY = 9999;
    private static final int MOST_RAIN = 999;
    private static final int MOST_TOLD = 999999;
    private static final int MOST_HOUR = 99999;
    private static final int MOST_HOLDS_TRIED = 200;

    private static final int FAR_AHEAD = 100;
    private static final int AHEAD = 40;
    private static final int AHEAD_BY_SETS = 12;

    /** What change() and of() tell of a HOUSE, and RAIN beside them. */
    private static final int OF_KIND = 0;
    private static final int OF_WATER = 1;
    private static final int OF_NEED = 2;
    private static final int OF_HOLDS = 3;
    private static final int OF_SPOUT = 4;
    private static final int OF_DRY = 5;
    private static final int OF_RAIN = 6;

    private final Quarter quarter = new Quarter();
    private final Quarter kept = new Quarter();
    private final Quarter trial = new Quarter();
    private final int[] waterBefore = new int[HOUSES];
    private final Tape tape = new Tape();
    private final TextReader reader = new TextReader(tape);
    private final Sheet[] sheets = new Sheet[SHEETS];
    private final int[] found = new int[FINDINGS];
    private boolean isKept;

    public GutterRights() {
        for (int s = 0; s < SHEETS; s++) {
            sheets[s] = new Sheet();
        }
    }

    // ---- houses, rain

    public int change(int house, int what, int v) {
        if (!isHouse(house) || !isUpTo(what, OF_DRY) || !isUpTo(v, mostOf(what))) {
            return tell(BEYOND);
        }
        int[] row = quarter.row(what);
        int was = row[house];
        row[house] = v;
        return was;
    }

    public int of(int house, int what) {
        if (!isHouse(house) || !isUpTo(what, 9)) {
            return tell(BEYOND);
        }
        switch (what) {
            case 6:
                return quarter.usesOf(house);
            case 7:
                return quarter.keepsOf(house);
            case 8:
                return Kinds.losing(quarter.kind[house]);
            case 9:
                return quarter.leadsTo(house);
            default:
                return quarter.row(what)[house];
        }
    }

    public int rain(int v) {
        if (!isUpTo(v, MOST_RAIN)) {
            return tell(BEYOND);
        }
        int was = quarter.rain;
        quarter.rain = v;
        return was;
    }

    public int spouts(int houses) {
        if (!isUpTo(houses, ALL_HOUSES)) {
            return tell(BEYOND);
        }
        int was = quarter.turnedSpouts();
        for (int house = 0; house < HOUSES; house++) {
            quarter.spout[house] = houses >> house & 1;
        }
        return was;
    }

    public int pour(int house, int v) {
        if (!isHouse(house) || !isUpTo(v, MOST_WATER)) {
            return tell(BEYOND);
        }
        quarter.bring(house, v);
        return quarter.water[house];
    }

    // ---- hours

    public int go(int n) {
        if (n < 1 || n > 60) {
            return tell(BEYOND);
        }
        if (quarter.hour + n > MOST_HOUR) {
            return tell(STATE);
        }
        quarter.passHours(n, LAST_HOUSE);
        return quarter.alley;
    }

    public int now(int what) {
        switch (what) {
            case 0:
                return quarter.hour;
            case 1:
                return quarter.waterOfAll();
            case 2:
                return quarter.alley;
            case 3:
                return quarter.lost;
            case 4:
                return quarter.everDry();
            case 5:
                return quarter.turnedSpouts();
            case 6:
                return quarter.rain;
            default:
                return tell(BEYOND);
        }
    }

    // ---- what will be (nothing changes)

    public int ahead(int house, int what, int n) {
        if (!isHouse(house) || (what != OF_WATER && what != OF_DRY) || !isUpTo(n, FAR_AHEAD)) {
            return tell(BEYOND);
        }
        trial.become(quarter);
        trial.passHours(n, house);
        return trial.row(what)[house];
    }

    public int alley(int n) {
        if (!isUpTo(n, FAR_AHEAD)) {
            return tell(BEYOND);
        }
        trial.become(quarter);
        trial.passHours(n, LAST_HOUSE);
        return trial.alley;
    }

    public int dry(int n) {
        if (!isUpTo(n, FAR_AHEAD)) {
            return tell(BEYOND);
        }
        trial.become(quarter);
        return trial.passHours(n, LAST_HOUSE);
    }

    public int when(int house, int v) {
        if (!isHouse(house) || !isUpTo(v, MOST_WATER)) {
            return tell(BEYOND);
        }
        trial.become(quarter);
        for (int hours = 0; hours <= FAR_AHEAD; hours++) {
            if (trial.water[house] >= v) {
                return hours;
            }
            trial.passHour(house);
        }
        return tell(NONE);
    }

    public int settles() {
        trial.become(quarter);
        for (int hours = 0; hours <= FAR_AHEAD; hours++) {
            System.arraycopy(trial.water, 0, waterBefore, 0, HOUSES);
            trial.passHour(LAST_HOUSE);
            if (isWaterAsBefore()) {
                return hours;
            }
        }
        return tell(NONE);
    }

    public int below(int house) {
        if (!isHouse(house)) {
            return tell(BEYOND);
        }
        int set = 0;
        int at = house;
        for (int steps = 0; steps < HOUSES && at != NOTHING; steps++) {
            set |= 1 << at;
            at = quarter.leadsTo(at);
        }
        return set;
    }

    // ---- how much, as what

    public int rainFor(int house, int n) {
        if (!isHouse(house) || !isUpTo(n, AHEAD)) {
            return tell(BEYOND);
        }
        return leastFor(OF_RAIN, MOST_RAIN, house, n);
    }

    public int holdsFor(int house, int n) {
        if (!isHouse(house) || !isUpTo(n, AHEAD)) {
            return tell(BEYOND);
        }
        return leastFor(OF_HOLDS, MOST_HOLDS_TRIED, house, n);
    }

    /** Tries every NEED: with less of it a BREWERY KEEPS less too, so less isn't plainly better. */
    public int needFor(int house, int n) {
        if (!isHouse(house) || !isUpTo(n, AHEAD)) {
            return tell(BEYOND);
        }
        for (int need = MOST_NEED; need >= 0; need--) {
            if (staysWetWith(OF_NEED, need, house, n)) {
                return need;
            }
        }
        return tell(NONE);
    }

    public int kindsFor(int house, int n) {
        if (!isHouse(house) || !isUpTo(n, AHEAD)) {
            return tell(BEYOND);
        }
        int set = 0;
        for (int kind = 0; kind < Kinds.COUNT; kind++) {
            if (staysWetWith(OF_KIND, kind, house, n)) {
                set |= 1 << kind;
            }
        }
        return set;
    }

    public int kindFor(int house, int n) {
        if (!isHouse(house) || !isUpTo(n, AHEAD)) {
            return tell(BEYOND);
        }
        int most = -1;
        int bestKind = 0;
        for (int kind = 0; kind < Kinds.COUNT; kind++) {
            tryWith(OF_KIND, kind, house);
            trial.passHours(n, LAST_HOUSE);
            if (trial.alley > most) {
                most = trial.alley;
                bestKind = kind;
            }
        }
        return bestKind;
    }

    // ---- spouts

    /**
     * Smaller sets first. SPOUTS of the last of the told HOUSES and of those behind it bring it
     * nothing, so no set of fewest has them.
     */
    public int turn(int houses, int n) {
        if (!isUpTo(houses, ALL_HOUSES) || !isUpTo(n, AHEAD_BY_SETS)) {
            return tell(BEYOND);
        }
        int last = lastIn(houses);
        for (int size = 0; size <= last; size++) {
            for (int set = 0; set < 1 << last; set++) {
                if (Integer.bitCount(set) == size && staysWetTurned(set, houses, last, n)) {
                    return set;
                }
            }
        }
        return tell(NONE);
    }

    public int best(int n) {
        if (!isUpTo(n, AHEAD)) {
            return tell(BEYOND);
        }
        int fewest = HOUSES + 1;
        int bestHouse = 0;
        for (int house = 0; house < HOUSES; house++) {
            tryTurned(1 << house);
            int dryHouses = Integer.bitCount(trial.passHours(n, LAST_HOUSE));
            if (dryHouses < fewest) {
                fewest = dryHouses;
                bestHouse = house;
            }
        }
        return bestHouse;
    }

    public int love(int house, int n) {
        if (!isHouse(house) || !isUpTo(n, AHEAD)) {
            return tell(BEYOND);
        }
        int most = -1;
        int bestHouse = 0;
        for (int other = 0; other < HOUSES; other++) {
            tryTurned(1 << other);
            trial.passHours(n, house);
            if (trial.water[house] > most) {
                most = trial.water[house];
                bestHouse = other;
            }
        }
        return bestHouse;
    }

    public int burst(int house, int v, int n) {
        if (!isHouse(house) || !isUpTo(v, MOST_WATER) || !isUpTo(n, AHEAD)) {
            return tell(BEYOND);
        }
        trial.become(quarter);
        trial.passHours(n, LAST_HOUSE);
        int without = trial.alley;
        trial.become(quarter);
        trial.bring(house, v);
        trial.passHours(n, LAST_HOUSE);
        return trial.alley - without;
    }

    // ---- what was seen

    public int turned(int s, int house) {
        int finding = seekSheet(s);
        if (finding != 0) {
            return finding;
        }
        if (!isHouse(house)) {
            return tell(BEYOND);
        }
        int set = 0;
        for (int other = 0; other < HOUSES; other++) {
            tryTurned(1 << other);
            if (isTrialAsSeen(sheets[s], house)) {
                set |= 1 << other;
            }
        }
        return set;
    }

    public int kinds(int s, int house) {
        int finding = seekSheet(s);
        if (finding != 0) {
            return finding;
        }
        if (!isHouse(house)) {
            return tell(BEYOND);
        }
        int set = 0;
        for (int kind = 0; kind < Kinds.COUNT; kind++) {
            tryWith(OF_KIND, kind, house);
            if (isTrialAsSeen(sheets[s], house)) {
                set |= 1 << kind;
            }
        }
        return set;
    }

    // ---- showers

    public int showers(int n) {
        if (n < 1 || n > 20) {
            return tell(BEYOND);
        }
        if (quarter.hour + n > MOST_HOUR) {
            return tell(STATE);
        }
        int dryHours = 0;
        for (int i = 0; i < n; i++) {
            quarter.rain = quarter.draw() % 100;
            if (quarter.passHour(LAST_HOUSE) != 0) {
                dryHours++;
            }
        }
        return dryHours;
    }

    /** A fraction in lowest terms stays so when both its numbers are raised to a power. */
    public long odds(int v, int n, int what) {
        if (!isUpTo(v, 100) || !isUpTo(n, 9) || !isUpTo(what, 1)) {
            return tell(BEYOND);
        }
        int above = 100 - v;
        int common = 100;
        while (common > 1 && (above % common != 0 || 100 % common != 0)) {
            common--;
        }
        long base = (what == 0 ? above : 100) / common;
        long power = 1;
        for (int i = 0; i < n; i++) {
            power *= base;
        }
        return power;
    }

    public int seed(int v) {
        int was = quarter.z;
        quarter.z = v;
        return was;
    }

    // ---- texts

    public int feed(int bytes, int n) {
        if (n < 1 || n > 4) {
            return tell(BEYOND);
        }
        if (tape.size + n > Tape.MOST) {
            return tell(FULL);
        }
        for (int i = n - 1; i >= 0; i--) {
            tape.add(bytes >> 8 * i & 255);
        }
        return tape.size;
    }

    public int wipe() {
        int was = tape.size;
        tape.size = 0;
        return was;
    }

    /** Reads into the trial, so that a FAULT leaves the quarter as it is. */
    public int text() {
        trial.become(quarter);
        int items = reader.readInto(trial);
        if (items > 0) {
            quarter.become(trial);
        }
        tape.size = 0;
        return items;
    }

    // ---- spots, sheets

    public int hold(int spot, int house) {
        if (!isSpot(spot) || (house != NOTHING && !isHouse(house))) {
            return tell(BEYOND);
        }
        quarter.spots[spot] = house;
        return 1;
    }

    public int as(int spot, int kind) {
        if (!isSpot(spot) || !isUpTo(kind, Kinds.COUNT - 1)) {
            return tell(BEYOND);
        }
        int house = quarter.spots[spot];
        if (house == NOTHING) {
            return tell(MISSING);
        }
        if (!Kinds.isUnder(quarter.kind[house], kind)) {
            return tell(KIND);
        }
        return house;
    }

    public int sheet(int s, int bits, int n) {
        if (!isSheet(s) || (bits != 0 && bits != 8 && bits != 16 && bits != 32)) {
            return tell(BEYOND);
        }
        if (n < 0) {
            return tell(SIZE);
        }
        if (n > Sheet.MOST) {
            return tell(BEYOND);
        }
        sheets[s].begin(bits, bits == 0 ? 0 : n);
        return sheets[s].size;
    }

    public int write(int s, int i, int v) {
        int finding = seekSheet(s);
        if (finding != 0) {
            return finding;
        }
        if (i < 0 || i >= sheets[s].size) {
            return tell(BEYOND);
        }
        sheets[s].put(i, v);
        return 1;
    }

    public int copy(int s, int from, int t, int to, int n) {
        if (!isSheet(s) || !isSheet(t)) {
            return tell(BEYOND);
        }
        Sheet source = sheets[s];
        Sheet target = sheets[t];
        if (source.isMissing() || target.isMissing()) {
            return tell(MISSING);
        }
        if (source.bits != target.bits) {
            return tell(KIND);
        }
        if (!source.hasRun(from, n) || !target.hasRun(to, n)) {
            return tell(BEYOND);
        }
        System.arraycopy(source.numbers, from, target.numbers, to, n);
        return n;
    }

    public int load(int s) {
        int finding = seekSheet(s);
        if (finding != 0) {
            return finding;
        }
        int came = 0;
        while (came < sheets[s].size && came < HOUSES && isUpTo(sheets[s].numbers[came], MOST_NEED)) {
            quarter.need[came] = sheets[s].numbers[came];
            came++;
        }
        return came;
    }

    public int judge(int s) {
        int finding = seekSheet(s);
        if (finding != 0) {
            return finding;
        }
        int[] numbers = sheets[s].numbers;
        for (int i = 0; i < sheets[s].size; i++) {
            if (!isHouse(numbers[i]) || (i > 0 && quarter.leadsTo(numbers[i - 1]) != numbers[i])) {
                return 1 + i;
            }
        }
        return 0;
    }

    // ---- images

    public int image() {
        kept.become(quarter);
        isKept = true;
        return 1;
    }

    public int undo() {
        if (!isKept) {
            return tell(NONE);
        }
        quarter.become(kept);
        return quarter.hour;
    }

    public int tear() {
        int was = isKept ? 1 : 0;
        isKept = false;
        return was;
    }

    public int count(int what) {
        switch (what) {
            case 0:
                return quarter.hour;
            case 1:
                return quarter.housesOfOtherKinds();
            case 2:
                return Integer.bitCount(quarter.everDry());
            case 3:
                return quarter.waterOfAll();
            case 4:
                return quarter.alley;
            case 5:
                return tape.size;
            case 6:
                return quarter.z;
            case 7:
                return quarter.spotsHeld();
            default:
                return tell(BEYOND);
        }
    }

    public int status(int which) {
        if (which != -1 && !isUpTo(which, FINDINGS - 1)) {
            return tell(BEYOND);
        }
        if (which != -1) {
            return found[which];
        }
        int all = 0;
        for (int finding = 0; finding < FINDINGS; finding++) {
            all += found[finding];
        }
        return all;
    }

    // ---- what the calls share

    /** Counts a finding (0 to 6: BEYOND to SIZE) and gives its answer. */
    private int tell(int finding) {
        found[finding]++;
        return LOW - finding;
    }

    private static boolean isUpTo(int v, int most) {
        return v >= 0 && v <= most;
    }

    private static boolean isHouse(int house) {
        return isUpTo(house, LAST_HOUSE);
    }

    private static boolean isSpot(int spot) {
        return isUpTo(spot, SPOTS - 1);
    }

    private static boolean isSheet(int s) {
        return isUpTo(s, SHEETS - 1);
    }

    /** 0 if there is such a sheet, and it isn't MISSING; else the finding, counted. */
    private int seekSheet(int s) {
        if (!isSheet(s)) {
            return tell(BEYOND);
        }
        return sheets[s].isMissing() ? tell(MISSING) : 0;
    }

    private static int mostOf(int what) {
        switch (what) {
            case OF_KIND:
                return Kinds.COUNT - 1;
            case OF_WATER:
                return MOST_WATER;
            case OF_NEED:
                return MOST_NEED;
            case OF_HOLDS:
                return MOST_HOLDS;
            case OF_SPOUT:
                return 1;
            default:
                return MOST_DRY;
        }
    }

    /** The greatest HOUSE of a set; 0 if it is empty. */
    private static int lastIn(int houses) {
        int last = LAST_HOUSE;
        while (last > 0 && (houses >> last & 1) == 0) {
            last--;
        }
        return last;
    }

    private boolean isWaterAsBefore() {
        for (int house = 0; house < HOUSES; house++) {
            if (trial.water[house] != waterBefore[house]) {
                return false;
            }
        }
        return true;
    }

    private void tryTurned(int houses) {
        trial.become(quarter);
        for (int house = 0; house < HOUSES; house++) {
            trial.spout[house] ^= houses >> house & 1;
        }
    }

    private void tryWith(int what, int v, int house) {
        trial.become(quarter);
        if (what == OF_RAIN) {
            trial.rain = v;
        } else {
            trial.row(what)[house] = v;
        }
    }

    private boolean staysWetTurned(int turnedHouses, int houses, int last, int n) {
        tryTurned(turnedHouses);
        return trial.staysWet(houses, last, n);
    }

    private boolean staysWetWith(int what, int v, int house, int n) {
        tryWith(what, v, house);
        return trial.staysWet(1 << house, house, n);
    }

    /**
     * The least RAIN, or HOLDS, with which a HOUSE stays wet. More of either never leaves the HOUSE
     * with less WATER in any HOUR, so the range can be halved; ten halvings are enough for 1000.
     */
    private int leastFor(int what, int most, int house, int n) {
        if (!staysWetWith(what, most, house, n)) {
            return tell(NONE);
        }
        int low = 0;
        int high = most;
        for (int step = 0; step < 10 && low < high; step++) {
            int middle = (low + high) / 2;
            if (staysWetWith(what, middle, house, n)) {
                high = middle;
            } else {
                low = middle + 1;
            }
        }
        return low;
    }

    /** Whether WATER of a HOUSE of the trial is, now and behind each HOUR, as a sheet tells. */
    private boolean isTrialAsSeen(Sheet seen, int house) {
        for (int i = 0; i < seen.size; i++) {
            if (i > 0) {
                trial.passHour(house);
            }
            if (seen.numbers[i] != -1 && seen.numbers[i] != trial.water[house]) {
                return false;
            }
        }
        return true;
    }

    /** What HOUSES of each KIND use, keep and lose. */
    private static final class Kinds {
        static final int COUNT = 7;
        static final int FONT = 1;
        static final int DYER = 2;
        static final int BREWERY = 3;
        static final int DUEL = 4;
        static final int MOSSY = 5;
        static final int INVALID = 6;

        /** The KIND right above each one; above HOUSE there is none. */
        private static final int[] ABOVE = {-1, 0, 0, 2, 3, 0, 1};

        private Kinds() {
        }

        static boolean isUnder(int kind, int other) {
            int at = kind;
            for (int steps = 0; steps < COUNT && at >= 0; steps++) {
                if (at == other) {
                    return true;
                }
                at = ABOVE[at];
            }
            return false;
        }

        static int using(int kind, int need, int hour) {
            int asFont = hour % 2 == 0 ? need : 0;
            int asBrewery = Math.max(0, 2 * need - 3);
            switch (kind) {
                case FONT:
                    return asFont;
                case INVALID:
                    return asFont + 1;
                case DYER:
                    return 2 * need;
                case BREWERY:
                    return asBrewery;
                case DUEL:
                    return hour % 6 == 5 ? asBrewery : 0;
                default:
                    return need;
            }
        }

        static int keeping(int kind, int holds, int need) {
            switch (kind) {
                case INVALID:
                    return holds + 10;
                case DYER:
                    return holds / 2;
                case BREWERY:
                case DUEL:
                    return holds / 2 + need;
                default:
                    return holds;
            }
        }

        static int losing(int kind) {
            switch (kind) {
                case MOSSY:
                    return 5;
                case DYER:
                case BREWERY:
                case DUEL:
                    return 1;
                default:
                    return 0;
            }
        }
    }

    /** All that image() keeps. */
    private static final class Quarter {
        final int[] kind = new int[HOUSES];
        final int[] water = new int[HOUSES];
        final int[] need = new int[HOUSES];
        final int[] holds = new int[HOUSES];
        final int[] spout = new int[HOUSES];
        final int[] dryHours = new int[HOUSES];
        final int[] spots = new int[SPOTS];
        int rain = 20;
        int alley;
        int lost;
        int hour;
        int z = 1;

        Quarter() {
            Arrays.fill(need, 2);
            Arrays.fill(holds, 10);
            Arrays.fill(spots, NOTHING);
        }

        void become(Quarter other) {
            System.arraycopy(other.kind, 0, kind, 0, HOUSES);
            System.arraycopy(other.water, 0, water, 0, HOUSES);
            System.arraycopy(other.need, 0, need, 0, HOUSES);
            System.arraycopy(other.holds, 0, holds, 0, HOUSES);
            System.arraycopy(other.spout, 0, spout, 0, HOUSES);
            System.arraycopy(other.dryHours, 0, dryHours, 0, HOUSES);
            System.arraycopy(other.spots, 0, spots, 0, SPOTS);
            rain = other.rain;
            alley = other.alley;
            lost = other.lost;
            hour = other.hour;
            z = other.z;
        }

        int[] row(int what) {
            switch (what) {
                case OF_KIND:
                    return kind;
                case OF_WATER:
                    return water;
                case OF_NEED:
                    return need;
                case OF_HOLDS:
                    return holds;
                case OF_SPOUT:
                    return spout;
                default:
                    return dryHours;
            }
        }

        int usesOf(int house) {
            return Kinds.using(kind[house], need[house], hour);
        }

        int keepsOf(int house) {
            return Kinds.keeping(kind[house], holds[house], need[house]);
        }

        int leadsTo(int house) {
            int next = house + 1 + spout[house];
            return next <= LAST_HOUSE ? next : NOTHING;
        }

        int draw() {
            z = z * 1103515245 + 12345;
            return z >>> 8;
        }

        /** Water comes to a HOUSE, or to THE ALLEY (NOTHING). */
        void bring(int house, int v) {
            if (house == NOTHING) {
                alley = Math.min(MOST_TOLD, alley + v);
                return;
            }
            int all = water[house] + v;
            water[house] = Math.min(MOST_WATER, all);
            lose(all - water[house]);
        }

        private void lose(int v) {
            lost = Math.min(MOST_TOLD, lost + v);
        }

        /**
         * AN HOUR for HOUSES 0 to last (those behind it bring them nothing): which were DRY. It
         * goes from the last to the first, so that none lets go what came to it in this HOUR.
         */
        int passHour(int last) {
            int dryHouses = 0;
            bring(0, rain);
            for (int house = last; house >= 0; house--) {
                int left = water[house] - usesOf(house);
                if (left < 0) {
                    left = 0;
                    dryHouses |= 1 << house;
                    dryHours[house] = Math.min(MOST_DRY, dryHours[house] + 1);
                }
                water[house] = Math.min(left, keepsOf(house));
                int over = left - water[house];
                int losing = Math.min(over, Kinds.losing(kind[house]));
                lose(losing);
                bring(leadsTo(house), over - losing);
            }
            hour = Math.min(MOST_HOUR, hour + 1);
            return dryHouses;
        }

        /** Some HOURS for HOUSES 0 to last: which were DRY in any of them. */
        int passHours(int n, int last) {
            int dryHouses = 0;
            for (int i = 0; i < n; i++) {
                dryHouses |= passHour(last);
            }
            return dryHouses;
        }

        /** Whether none of some HOUSES (none is behind last) is DRY in the next HOURS. */
        boolean staysWet(int houses, int last, int n) {
            for (int i = 0; i < n; i++) {
                if ((passHour(last) & houses) != 0) {
                    return false;
                }
            }
            return true;
        }

        int waterOfAll() {
            int sum = 0;
            for (int house = 0; house < HOUSES; house++) {
                sum += water[house];
            }
            return sum;
        }

        int everDry() {
            int set = 0;
            for (int house = 0; house < HOUSES; house++) {
                if (dryHours[house] > 0) {
                    set |= 1 << house;
                }
            }
            return set;
        }

        int turnedSpouts() {
            int set = 0;
            for (int house = 0; house < HOUSES; house++) {
                set |= spout[house] << house;
            }
            return set;
        }

        int housesOfOtherKinds() {
            int sum = 0;
            for (int house = 0; house < HOUSES; house++) {
                if (kind[house] != 0) {
                    sum++;
                }
            }
            return sum;
        }

        int spotsHeld() {
            int sum = 0;
            for (int spot = 0; spot < SPOTS; spot++) {
                if (spots[spot] != NOTHING) {
                    sum++;
                }
            }
            return sum;
        }
    }

    /** THE TAPE. */
    private static final class Tape {
        static final int MOST = 120;

        final int[] bytes = new int[MOST];
        int size;

        void add(int value) {
            if (size < MOST) {
                bytes[size] = value;
                size++;
            }
        }

        boolean isBetween(int place, char low, char high) {
            return place < size && bytes[place] >= low && bytes[place] <= high;
        }
    }

    /** Reads a TEXT from THE TAPE, a TOKEN at a time. */
    private static final class TextReader {
        private static final int END = 0;
        private static final int WORD = 1;
        private static final int NUMBER = 2;
        private static final int SEMICOLON = 3;
        private static final int OTHER = 4;
        private static final int MOST_NUMBER = 9999;

        private final Tape tape;
        private int start;
        private int end;
        private int sort;
        private int number;

        TextReader(Tape tape) {
            this.tape = tape;
        }

        /** How many ITEMS there are, or -1 less the FAULT; then a part of them may be so already. */
        int readInto(Quarter quarter) {
            end = 0;
            nextToken();
            boolean isGood = readItem(quarter);
            int items = 1;
            while (isGood && sort == SEMICOLON && items < Tape.MOST) {
                nextToken();
                isGood = readItem(quarter);
                items++;
            }
            return isGood && sort == END ? items : -1 - start;
        }

        private boolean readItem(Quarter quarter) {
            if (isWord("rain")) {
                return readRain(quarter);
            }
            int kind = kindOfWord();
            if (kind < 0) {
                return false;
            }
            nextToken();
            if (!isNumber(LAST_HOUSE)) {
                return false;
            }
            int house = number;
            quarter.kind[house] = kind;
            nextToken();
            return readPart("has", quarter.water, house, MOST_WATER)
                    && readPart("needs", quarter.need, house, MOST_NEED)
                    && readPart("holds", quarter.holds, house, MOST_HOLDS)
                    && readSpout(quarter, house);
        }

        private boolean readRain(Quarter quarter) {
            nextToken();
            if (!isNumber(MOST_RAIN)) {
                return false;
            }
            quarter.rain = number;
            nextToken();
            return true;
        }

        /** A part that may be left out: false only with a FAULT in it. */
        private boolean readPart(String word, int[] row, int house, int most) {
            if (!isWord(word)) {
                return true;
            }
            nextToken();
            if (!isNumber(most)) {
                return false;
            }
            row[house] = number;
            nextToken();
            return true;
        }

        private boolean readSpout(Quarter quarter, int house) {
            if (isWord("left")) {
                quarter.spout[house] = 0;
                nextToken();
            } else if (isWord("right")) {
                quarter.spout[house] = 1;
                nextToken();
            }
            return true;
        }

        private int kindOfWord() {
            for (int kind = 0; kind < Kinds.COUNT; kind++) {
                if (isWord(nameOf(kind))) {
                    return kind;
                }
            }
            return -1;
        }

        private static String nameOf(int kind) {
            switch (kind) {
                case Kinds.FONT:
                    return "font";
                case Kinds.DYER:
                    return "dyer";
                case Kinds.BREWERY:
                    return "brewery";
                case Kinds.DUEL:
                    return "duel";
                case Kinds.MOSSY:
                    return "mossy";
                case Kinds.INVALID:
                    return "invalid";
                default:
                    return "house";
            }
        }

        private boolean isNumber(int most) {
            return sort == NUMBER && number <= most;
        }

        private boolean isWord(String word) {
            if (sort != WORD || end - start != word.length()) {
                return false;
            }
            for (int i = 0; i < word.length(); i++) {
                if (tape.bytes[start + i] != word.charAt(i)) {
                    return false;
                }
            }
            return true;
        }

        private void nextToken() {
            start = end;
            while (start < tape.size && tape.bytes[start] == ' ') {
                start++;
            }
            end = start;
            if (start >= tape.size) {
                sort = END;
            } else if (tape.isBetween(start, 'a', 'z')) {
                readWord();
            } else if (tape.isBetween(start, '0', '9')) {
                readNumber();
            } else {
                sort = tape.bytes[start] == ';' ? SEMICOLON : OTHER;
                end = start + 1;
            }
        }

        private void readWord() {
            sort = WORD;
            while (end < tape.size && tape.isBetween(end, 'a', 'z')) {
                end++;
            }
        }

        /** A NUMBER that is too great stays so, however many digits are behind it. */
        private void readNumber() {
            sort = NUMBER;
            number = 0;
            while (end < tape.size && tape.isBetween(end, '0', '9')) {
                number = Math.min(MOST_NUMBER + 1, number * 10 + tape.bytes[end] - '0');
                end++;
            }
        }
    }

    /** A row of numbers of 8, 16 or 32 bits; of 0 bits it is MISSING. */
    private static final class Sheet {
        static final int MOST = 40;

        final int[] numbers = new int[MOST];
        int bits;
        int size;

        boolean isMissing() {
            return bits == 0;
        }

        void begin(int newBits, int newSize) {
            bits = newBits;
            size = newSize;
            Arrays.fill(numbers, 0);
        }

        void put(int i, int v) {
            numbers[i] = bits == 8 ? (byte) v : bits == 16 ? (short) v : v;
        }

        boolean hasRun(int from, int n) {
            return from >= 0 && n >= 0 && from <= size && n <= size - from;
        }
    }
}
