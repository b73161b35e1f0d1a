import java.lang.reflect.Method;
import java.lang.reflect.Modifier;
import java.util.Arrays;
import java.util.HashMap;
import java.util.Map;
import java.util.Random;

/** All promises: runs of 512 calls by chance (always the same), each answer held against PlainRights. */
public final class RunsAgainstPlainTest {

    private static final int ANY = Integer.MIN_VALUE;

    /** Each call, how often it comes, and for each argument the least and the most that is allowed. */
    private static final String[] CALLS = {
        "change 9 0 10 0 5 0 99", "change 3 0 10 1 1 0 9999", "change 3 0 10 0 0 0 6", "change 3 0 10 3 3 0 999",
        "change 1 0 10 5 5 0 9999", "of 16 0 10 0 9", "rain 4 0 999", "rain 3 0 60", "spouts 4 0 2047",
        "pour 6 0 10 0 9999", "go 10 1 60", "go 4 1 3", "now 8 0 6", "ahead 8 0 10 1 5 0 100",
        "ahead 2 0 10 1 1 0 100", "ahead 2 0 10 5 5 0 100", "alley 4 0 100", "dry 4 0 100", "when 6 0 10 0 9999",
        "when 4 0 10 0 40", "settles 4", "below 4 0 10", "rainFor 1 0 10 0 40", "rainFor 2 0 10 0 4",
        "holdsFor 4 0 10 0 40", "needFor 4 0 10 0 40", "kindsFor 4 0 10 0 40", "kindFor 4 0 10 0 40",
        "turn 1 0 2047 0 12", "turn 2 0 7 0 12", "best 4 0 40", "love 4 0 10 0 40", "burst 4 0 10 0 9999 0 40",
        "turned 5 0 3 0 10", "kinds 5 0 3 0 10", "showers 6 1 20", "odds 3 0 100 0 9 0 1", "seed 3 * *",
        "feed 4 * * 1 4", "wipe 1", "text 2", "hold 6 0 9 -1 10", "hold 12 0 3 0 10", "as 6 0 9 0 6", "as 14 0 3 0 6", "sheet 6 0 3 0 32 0 40",
        "sheet 3 0 3 8 8 0 40", "sheet 3 0 3 16 16 0 12", "sheet 3 0 3 32 32 0 3", "sheet 1 0 3 0 0 0 40",
        "write 6 0 3 0 39 * *", "write 6 0 3 0 39 0 99", "write 6 0 3 0 3 -1 10", "copy 8 0 3 0 40 0 3 0 40 0 40",
        "copy 6 0 3 0 5 0 3 0 5 0 5", "load 4 0 3", "judge 4 0 3", "image 3", "undo 3", "tear 1", "count 8 0 7",
        "status 6 -1 6",
    };
    private static final String[] WORDS = {"house", "font", "dyer", "brewery", "duel", "mossy", "invalid"};

    private final Map<String, Method> methods = new HashMap<>();
    private final Random chance = new Random(20261119);
    private GutterRights x;
    private PlainRights plain;
    private int calls;
    private String run;

    public static void main(String[] args) throws ReflectiveOperationException {
        new RunsAgainstPlainTest().allRuns();
        Due.end();
    }

    private void allRuns() throws ReflectiveOperationException {
        for (Method method : GutterRights.class.getDeclaredMethods()) {
            if (Modifier.isPublic(method.getModifiers())) {
                methods.put(method.getName(), method);
            }
        }
        for (int i = 0; i < 150; i++) {
            run = "run " + i;
            x = new GutterRights();
            plain = new PlainRights();
            calls = 0;
            while (calls < 450) {
                aFew();
            }
            for (int which = -1; which <= 6; which++) {
                both("status", which);
            }
            Due.due("calls of a run", Math.max(calls, 512), 512);
        }
    }

    private void aFew() throws ReflectiveOperationException {
        int sort = chance.nextInt(60);
        if (sort == 0 || sort == 1) {
            text(chance.nextInt(4) == 0 ? spoiled(someText()) : someText());
        } else if (sort == 2) {
            seenSheet();
        } else if (sort == 3) {
            sheetsAndCopies();
        } else if (sort == 4 && chance.nextInt(3) == 0) {
            fullTape();
        } else if (sort == 5) {
            turnNear();
        } else {
            oneOf(CALLS[weighted()].split(" "));
        }
    }

    private int weighted() {
        int sum = Arrays.stream(CALLS).mapToInt(RunsAgainstPlainTest::weightOf).sum();
        int at = chance.nextInt(sum);
        int which = 0;
        while (at >= weightOf(CALLS[which])) {
            at -= weightOf(CALLS[which]);
            which++;
        }
        return which;
    }

    private static int weightOf(String call) {
        return Integer.parseInt(call.split(" ")[1]);
    }

    private void oneOf(String[] parts) throws ReflectiveOperationException {
        int[] a = new int[parts.length / 2 - 1];
        for (int k = 0; k < a.length; k++) {
            boolean isAny = parts[2 + 2 * k].equals("*");
            a[k] = isAny ? number(ANY, ANY) : number(Integer.parseInt(parts[2 + 2 * k]), Integer.parseInt(parts[3 + 2 * k]));
        }
        both(parts[0], a);
    }

    /** Mostly one that is allowed, now and then an end, or one beyond it. */
    private int number(int low, int high) {
        int sort = chance.nextInt(60);
        if (low == ANY || sort == 0) {
            return sort < 30 ? chance.nextInt() : chance.nextInt(1 << 1 + chance.nextInt(20)) - 3;
        }
        if (sort < 6) {
            return chance.nextBoolean() ? low : high;
        }
        if (sort == 6) {
            return chance.nextBoolean() ? low - 1 : high + 1;
        }
        return low + (sort < 16 ? chance.nextInt(Math.min(high - low, 5) + 1) : chance.nextInt(high - low + 1));
    }

    private void both(String name, int... a) throws ReflectiveOperationException {
        Object[] arguments = Arrays.stream(a).boxed().toArray();
        long got = ((Number) methods.get(name).invoke(x, arguments)).longValue();
        calls++;
        Due.due(run + ", call " + calls + ": " + name + Arrays.toString(a), got, plain.call(name, a));
    }

    private void text(String text) throws ReflectiveOperationException {
        both("wipe");
        for (int i = 0; i < text.length(); ) {
            int n = Math.min(text.length() - i, 1 + chance.nextInt(4));
            int bytes = chance.nextInt(8) == 0 && n < 4 ? -1 : 0;
            for (int k = 0; k < n; k++) {
                bytes = bytes << 8 | text.charAt(i + k) & 255;
            }
            both("feed", bytes, n);
            i += n;
        }
        both("text");
    }

    private String someText() {
        StringBuilder all = new StringBuilder(blank(0));
        int items = 1 + chance.nextInt(4);
        for (int i = 0; i < items; i++) {
            all.append(i == 0 ? "" : ";").append(blank(0));
            if (chance.nextInt(4) == 0) {
                all.append("rain").append(blank(0)).append(edge(999));
            } else {
                all.append(someHouse());
            }
            all.append(blank(0));
        }
        return all.substring(0, Math.min(all.length(), 118));
    }

    private String someHouse() {
        StringBuilder all = new StringBuilder(WORDS[chance.nextInt(7)]).append(blank(0)).append(edge(10));
        String[] parts = {"has", "needs", "holds"};
        int[] most = {9999, 99, 999};
        for (int k = 0; k < 3; k++) {
            if (chance.nextInt(2) == 0) {
                all.append(blank(0)).append(parts[k]).append(blank(0)).append(edge(most[k]));
            }
        }
        int sort = chance.nextInt(3);
        return all.append(sort == 0 ? "" : blank(0)).append(sort == 0 ? "" : sort == 1 ? "left" : "right").toString();
    }

    /** As often at the most that is allowed, or one beyond it, as the runs can bear. */
    private String edge(int most) {
        int sort = chance.nextInt(30);
        int v = sort == 0 ? most + 1 : sort < 4 ? most : chance.nextInt(chance.nextBoolean() ? most + 1 : 8);
        return (chance.nextInt(9) == 0 ? "00" : "") + v;
    }

    private String blank(int least) {
        return " ".repeat(least + (chance.nextInt(3) == 0 ? 0 : chance.nextInt(2)));
    }

    private String spoiled(String text) {
        if (text.isEmpty()) {
            return text;
        }
        int at = chance.nextInt(text.length());
        String signs = "az09; {`/:A\n\t" + (char) 255 + (char) 0;
        char sign = signs.charAt(chance.nextInt(signs.length()));
        switch (chance.nextInt(4)) {
            case 0:
                return text.substring(0, at);
            case 1:
                return text.substring(0, at) + sign + text.substring(at);
            case 2:
                return text.substring(0, at) + sign + text.substring(at + 1);
            default:
                return text.substring(0, at) + text.substring(at + 1);
        }
    }

    /** A sheet as some SPOUT turned would have it, or nearly so, so that turned() and kinds() find something. */
    private void seenSheet() throws ReflectiveOperationException {
        int house = chance.nextInt(11);
        int n = chance.nextInt(7);
        int s = chance.nextInt(4);
        both("image");
        both("spouts", chance.nextInt(2048));
        both("undo");
        both("change", chance.nextInt(11), 4, chance.nextInt(2));
        int[] seen = new int[n];
        for (int h = 0; h < n; h++) {
            seen[h] = chance.nextInt(3) == 0 ? -1 : x.ahead(house, 1, h);
            calls++;
        }
        both("sheet", s, chance.nextBoolean() ? 32 : 16, n);
        for (int h = 0; h < n; h++) {
            both("write", s, h, seen[h]);
        }
        int[] kind = {chance.nextInt(11), chance.nextInt(2)};
        both("change", kind[0], 4 * kind[1], chance.nextInt(2));
        both("turned", s, house);
        both("kinds", s, house);
        if (chance.nextBoolean()) {
            both("undo");
        }
    }

    private void sheetsAndCopies() throws ReflectiveOperationException {
        int bits = 8 << chance.nextInt(3);
        int s = chance.nextInt(4);
        int t = chance.nextInt(4);
        int n = chance.nextInt(9);
        both("sheet", s, bits, n);
        both("sheet", t, bits, 6);
        for (int i = 0; i < 6; i++) {
            both("write", s, i, number(0, i < 4 ? 10 : 300));
        }
        both("copy", s, number(0, 3), t, number(0, 3), number(0, 4));
        both("load", t);
        both("judge", t);
        both("copy", t, number(0, 3), t, number(0, 3), number(0, 4));
        both("judge", t);
        both("load", t);
        for (int house = 0; house < 6; house++) {
            both("of", house, 2);
        }
    }

    private void fullTape() throws ReflectiveOperationException {
        for (int i = 0; i < 29; i++) {
            both("feed", i == 0 ? 'r' << 24 | 'a' << 16 | 'i' << 8 | 'n' : 0x20202020, 4);
        }
        both("feed", '7', 1 + chance.nextInt(4));
        both("feed", '8', 1 + chance.nextInt(4));
        both("feed", '9', 1 + chance.nextInt(4));
        both("text");
        both("now", 6);
    }

    /** HOUSES that one or two turned SPOUTS may leave wet. */
    private void turnNear() throws ReflectiveOperationException {
        for (int house = 0; house < 11; house++) {
            both("change", house, 1, chance.nextInt(60));
            both("change", house, 2, chance.nextInt(chance.nextInt(3) == 0 ? 30 : 3));
        }
        for (int n = 1; n < 9; n++) {
            both("turn", chance.nextInt(2048) & chance.nextInt(2048) & chance.nextInt(2048), n);
        }
        both("best", 3);
        both("love", chance.nextInt(11), 3);
    }
}
