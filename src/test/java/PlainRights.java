import java.util.ArrayList;
import java.util.Arrays;
import java.util.List;
import java.util.regex.Matcher;
import java.util.regex.Pattern;

/**
 * The whole document, written a second time, in the slowest and plainest way: the tests hold runs of
 * calls against it. An act asks for its findings in the order of its words, ahead of all that it does.
 */
final class PlainRights {
    private static final int BEYOND = 0;
    private static final int FULL = 1;
    private static final int KIND = 2;
    private static final int NONE = 3;
    private static final int STATE = 4;
    private static final int MISSING = 5;
    private static final int SIZE = 6;

    private static final int[] MOST = {6, 9999, 99, 999, 1, 9999};
    private static final List<String> KINDS =
            List.of("house", "font", "dyer", "brewery", "duel", "mossy", "invalid");
    private static final int[][] AS = {{0}, {0, 1}, {0, 2}, {0, 2, 3}, {0, 2, 3, 4}, {0, 5}, {0, 1, 6}};
    private static final Pattern TOKEN = Pattern.compile("[a-z]+|[0-9]+|(?s:.)");

    /** A finding, on its way out of an act. */
    private static final class Finding extends RuntimeException {
        private static final long serialVersionUID = 1L;
        private final int number;

        Finding(int number) {
            super(null, null, false, false);
            this.number = number;
        }
    }

    /** A FAULT, on its way out of text(). */
    private static final class Fault extends RuntimeException {
        private static final long serialVersionUID = 1L;
        private final int place;

        Fault(int place) {
            super(null, null, false, false);
            this.place = place;
        }
    }

    private PlainQuarter q = PlainQuarter.atFirst();
    private int[] spots = new int[10];
    private int z = 1;
    private PlainQuarter keptQuarter;
    private int[] keptSpots;
    private int keptZ;
    private String tape = "";
    private final int[][] sheets = new int[4][];
    private final int[] bits = new int[4];
    private final int[] found = new int[7];
    private List<String> tokens;
    private List<Integer> places;
    private int at;

    PlainRights() {
        Arrays.fill(spots, -1);
    }

    long call(String name, int... a) {
        try {
            return act(name, a);
        } catch (Finding f) {
            found[f.number]++;
            return -1000001 - f.number;
        }
    }

    private static void ask(boolean isFine, int finding) {
        if (!isFine) {
            throw new Finding(finding);
        }
    }

    private static boolean in(int v, int low, int high) {
        return low <= v && v <= high;
    }

    private static int orNone(int answer) {
        ask(answer != Due.NONE, NONE);
        return answer;
    }

    private long act(String name, int[] a) {
        switch (name) {
            case "change", "of", "rain", "spouts", "pour", "go", "now":
                return ofHouses(name, a);
            case "ahead", "alley", "dry", "when", "settles", "below":
                return ofWhatWillBe(name, a);
            case "rainFor", "holdsFor", "needFor", "kindsFor", "kindFor":
                return ofHowMuch(name, a);
            case "turn", "best", "love", "burst":
                return ofSpouts(name, a);
            case "turned", "kinds":
                return ofWhatWasSeen(name, a);
            case "showers", "odds", "seed", "feed", "wipe", "text":
                return ofShowersAndTexts(name, a);
            case "hold", "as", "sheet", "write":
                return ofSpotsAndSheets(name, a);
            case "copy", "load", "judge":
                return ofNumbers(name, a);
            default:
                return ofImages(name, a);
        }
    }

    private long ofHouses(String name, int[] a) {
        int was;
        switch (name) {
            case "change":
                ask(in(a[0], 0, 10) && in(a[1], 0, 5) && in(a[2], 0, MOST[a[1]]), BEYOND);
                int[] row = List.of(q.kind, q.water, q.need, q.holds, q.spout, q.dried).get(a[1]);
                was = row[a[0]];
                row[a[0]] = a[2];
                return was;
            case "of":
                ask(in(a[0], 0, 10) && in(a[1], 0, 9), BEYOND);
                int i = a[0];
                int next = i + 1 + q.spout[i];
                return new int[] {q.kind[i], q.water[i], q.need[i], q.holds[i], q.spout[i], q.dried[i], q.uses(i),
                    q.keeps(i), q.loses(i), next > 10 ? -1 : next}[a[1]];
            case "rain":
                ask(in(a[0], 0, 999), BEYOND);
                was = q.rain;
                q.rain = a[0];
                return was;
            case "spouts":
                ask(in(a[0], 0, 2047), BEYOND);
                was = turnedSpouts();
                for (int k = 0; k < 11; k++) {
                    q.spout[k] = (a[0] & 1 << k) == 0 ? 0 : 1;
                }
                return was;
            case "pour":
                ask(in(a[0], 0, 10) && in(a[1], 0, 9999), BEYOND);
                q.pour(a[0], a[1]);
                return q.water[a[0]];
            case "go":
                ask(in(a[0], 1, 60), BEYOND);
                ask(q.hour + a[0] <= 99999, STATE);
                q = q.behind(a[0]);
                return q.alley;
            default:
                ask(in(a[0], 0, 6), BEYOND);
                return new int[] {q.hour, waterOfAll(), q.alley, q.lost, everDry(), turnedSpouts(), q.rain}[a[0]];
        }
    }

    private int turnedSpouts() {
        int set = 0;
        for (int k = 0; k < 11; k++) {
            set += q.spout[k] * (1 << k);
        }
        return set;
    }

    private int waterOfAll() {
        return Arrays.stream(q.water).sum();
    }

    private int everDry() {
        int set = 0;
        for (int k = 0; k < 11; k++) {
            set += q.dried[k] == 0 ? 0 : 1 << k;
        }
        return set;
    }

    private long ofWhatWillBe(String name, int[] a) {
        switch (name) {
            case "ahead":
                ask(in(a[0], 0, 10) && (a[1] == 1 || a[1] == 5) && in(a[2], 0, 100), BEYOND);
                PlainQuarter then = q.behind(a[2]);
                return a[1] == 1 ? then.water[a[0]] : then.dried[a[0]];
            case "alley":
                ask(in(a[0], 0, 100), BEYOND);
                return q.behind(a[0]).alley;
            case "dry":
                ask(in(a[0], 0, 100), BEYOND);
                return q.dry(a[0]);
            case "when":
                ask(in(a[0], 0, 10) && in(a[1], 0, 9999), BEYOND);
                return orNone(q.when(a[0], a[1]));
            case "settles":
                return orNone(q.settles());
            default:
                ask(in(a[0], 0, 10), BEYOND);
                return below(a[0]);
        }
    }

    private int below(int house) {
        return house > 10 ? 0 : 1 << house | below(house + 1 + q.spout[house]);
    }

    private long ofHowMuch(String name, int[] a) {
        ask(in(a[0], 0, 10) && in(a[1], 0, 40), BEYOND);
        switch (name) {
            case "rainFor":
                return orNone(q.rainFor(a[0], a[1]));
            case "holdsFor":
                return orNone(q.holdsFor(a[0], a[1]));
            case "needFor":
                return orNone(q.needFor(a[0], a[1]));
            case "kindsFor":
                return q.kindsFor(a[0], a[1]);
            default:
                return q.kindFor(a[0], a[1]);
        }
    }

    private long ofSpouts(String name, int[] a) {
        switch (name) {
            case "turn":
                ask(in(a[0], 0, 2047) && in(a[1], 0, 12), BEYOND);
                return orNone(q.turn(a[0], a[1]));
            case "best":
                ask(in(a[0], 0, 40), BEYOND);
                return q.best(a[0]);
            case "love":
                ask(in(a[0], 0, 10) && in(a[1], 0, 40), BEYOND);
                return q.love(a[0], a[1]);
            default:
                ask(in(a[0], 0, 10) && in(a[1], 0, 9999) && in(a[2], 0, 40), BEYOND);
                return q.burst(a[0], a[1], a[2]);
        }
    }

    private void askSheet(int s) {
        ask(in(s, 0, 3), BEYOND);
        ask(sheets[s] != null, MISSING);
    }

    private long ofWhatWasSeen(String name, int[] a) {
        askSheet(a[0]);
        ask(in(a[1], 0, 10), BEYOND);
        boolean bySpout = name.equals("turned");
        int set = 0;
        for (int k = 0; k < (bySpout ? 11 : 7); k++) {
            PlainQuarter other = bySpout ? q.turned(1 << k) : q.as(a[1], k);
            set |= other.isAsSeen(a[1], sheets[a[0]]) ? 1 << k : 0;
        }
        return set;
    }

    private int draw() {
        z = (int) ((z * 1103515245L + 12345L) & 0xFFFFFFFFL);
        return (int) ((z & 0xFFFFFFFFL) / 256);
    }

    private long ofShowersAndTexts(String name, int[] a) {
        int was;
        switch (name) {
            case "showers":
                ask(in(a[0], 1, 20), BEYOND);
                ask(q.hour + a[0] <= 99999, STATE);
                int dryHours = 0;
                for (int k = 0; k < a[0]; k++) {
                    q.rain = draw() % 100;
                    q.goAnHour();
                    dryHours += q.dryNow == 0 ? 0 : 1;
                }
                return dryHours;
            case "odds":
                ask(in(a[0], 0, 100) && in(a[1], 0, 9) && in(a[2], 0, 1), BEYOND);
                return odds(a[0], a[1], a[2]);
            case "seed":
                was = z;
                z = a[0];
                return was;
            case "feed":
                ask(in(a[1], 1, 4), BEYOND);
                ask(tape.length() + a[1] <= 120, FULL);
                StringBuilder fed = new StringBuilder();
                for (int k = 0; k < a[1]; k++) {
                    fed.insert(0, (char) (a[0] >>> 8 * k & 255));
                }
                tape += fed;
                return tape.length();
            case "wipe":
                was = tape.length();
                tape = "";
                return was;
            default:
                return text();
        }
    }

    private static long odds(int v, int n, int what) {
        java.math.BigInteger above = java.math.BigInteger.valueOf(100 - v).pow(n);
        java.math.BigInteger under = java.math.BigInteger.valueOf(100).pow(n);
        return (what == 0 ? above : under).divide(above.gcd(under)).longValueExact();
    }

    private long text() {
        PlainQuarter was = q.again();
        tokens = new ArrayList<>();
        places = new ArrayList<>();
        Matcher m = TOKEN.matcher(tape);
        while (m.find()) {
            if (!m.group().equals(" ")) {
                tokens.add(m.group());
                places.add(m.start());
            }
        }
        tokens.add("");
        places.add(tape.length());
        tape = "";
        at = 0;
        try {
            int items = 0;
            do {
                item();
                items++;
            } while (take(";"));
            stop(!token().isEmpty());
            return items;
        } catch (Fault f) {
            q = was;
            return -1 - f.place;
        }
    }

    private String token() {
        return tokens.get(at);
    }

    private void stop(boolean isFault) {
        if (isFault) {
            throw new Fault(places.get(at));
        }
    }

    private boolean take(String word) {
        boolean isThere = token().equals(word);
        at += isThere ? 1 : 0;
        return isThere;
    }

    private int number(int most) {
        String digits = token();
        stop(!digits.matches("[0-9]+") || new java.math.BigInteger(digits).bitLength() > 20);
        int v = Integer.parseInt(digits);
        stop(v > most);
        at++;
        return v;
    }

    private void item() {
        if (take("rain")) {
            q.rain = number(999);
            return;
        }
        int kind = KINDS.indexOf(token());
        stop(kind < 0);
        at++;
        int house = number(10);
        q.kind[house] = kind;
        if (take("has")) {
            q.water[house] = number(9999);
        }
        if (take("needs")) {
            q.need[house] = number(99);
        }
        if (take("holds")) {
            q.holds[house] = number(999);
        }
        if (take("left")) {
            q.spout[house] = 0;
        } else if (take("right")) {
            q.spout[house] = 1;
        }
    }

    private long ofSpotsAndSheets(String name, int[] a) {
        switch (name) {
            case "hold":
                ask(in(a[0], 0, 9) && in(a[1], -1, 10), BEYOND);
                spots[a[0]] = a[1];
                return 1;
            case "as":
                ask(in(a[0], 0, 9) && in(a[1], 0, 6), BEYOND);
                ask(spots[a[0]] != -1, MISSING);
                ask(Arrays.stream(AS[q.kind[spots[a[0]]]]).anyMatch(k -> k == a[1]), KIND);
                return spots[a[0]];
            case "sheet":
                ask(in(a[0], 0, 3) && List.of(0, 8, 16, 32).contains(a[1]), BEYOND);
                ask(a[2] >= 0, SIZE);
                ask(a[2] <= 40, BEYOND);
                bits[a[0]] = a[1];
                sheets[a[0]] = a[1] == 0 ? null : new int[a[2]];
                return a[1] == 0 ? 0 : a[2];
            default:
                askSheet(a[0]);
                ask(in(a[1], 0, sheets[a[0]].length - 1), BEYOND);
                sheets[a[0]][a[1]] = lowest(a[2], bits[a[0]]);
                return 1;
        }
    }

    private static int lowest(int v, int bits) {
        long all = 1L << bits;
        long rest = Math.floorMod((long) v, all);
        return (int) (rest >= all / 2 ? rest - all : rest);
    }

    private long ofNumbers(String name, int[] a) {
        if (name.equals("copy")) {
            ask(in(a[0], 0, 3) && in(a[2], 0, 3), BEYOND);
            ask(sheets[a[0]] != null && sheets[a[2]] != null, MISSING);
            ask(bits[a[0]] == bits[a[2]], KIND);
            ask(a[1] >= 0 && a[3] >= 0 && a[4] >= 0, BEYOND);
            ask((long) a[1] + a[4] <= sheets[a[0]].length && (long) a[3] + a[4] <= sheets[a[2]].length, BEYOND);
            int[] run = Arrays.copyOfRange(sheets[a[0]], a[1], a[1] + a[4]);
            for (int k = 0; k < run.length; k++) {
                sheets[a[2]][a[3] + k] = run[k];
            }
            return a[4];
        }
        askSheet(a[0]);
        int[] numbers = sheets[a[0]];
        for (int k = 0; k < numbers.length; k++) {
            int v = numbers[k];
            if (name.equals("load")) {
                if (!in(v, 0, 99) || k == 11) {
                    return k;
                }
                q.need[k] = v;
            } else if (!in(v, 0, 10) || k > 0 && numbers[k - 1] + 1 + q.spout[numbers[k - 1]] != v) {
                return k + 1;
            }
        }
        return name.equals("load") ? numbers.length : 0;
    }

    private long ofImages(String name, int[] a) {
        switch (name) {
            case "image":
                keptQuarter = q.again();
                keptSpots = spots.clone();
                keptZ = z;
                return 1;
            case "undo":
                ask(keptQuarter != null, NONE);
                q = keptQuarter.again();
                spots = keptSpots.clone();
                z = keptZ;
                return q.hour;
            case "tear":
                boolean was = keptQuarter != null;
                keptQuarter = null;
                return was ? 1 : 0;
            case "count":
                ask(in(a[0], 0, 7), BEYOND);
                long kinds = Arrays.stream(q.kind).filter(k -> k != 0).count();
                long held = Arrays.stream(spots).filter(h -> h != -1).count();
                return new long[] {q.hour, kinds, Integer.bitCount(everDry()), waterOfAll(), q.alley, tape.length(), z,
                    held}[a[0]];
            case "status":
                ask(in(a[0], -1, 6), BEYOND);
                return a[0] == -1 ? Arrays.stream(found).sum() : found[a[0]];
            default:
                throw new IllegalArgumentException(name);
        }
    }
}
