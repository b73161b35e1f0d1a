/** What the tests share: due answers, findings, and some runs of calls. */
final class Due {
    static final int BEYOND = -1000001;
    static final int FULL = -1000002;
    static final int KIND = -1000003;
    static final int NONE = -1000004;
    static final int STATE = -1000005;
    static final int MISSING = -1000006;
    static final int SIZE = -1000007;

    private static int wrong = 0;

    private Due() {
    }

    static void due(String call, long got, long want) {
        if (got != want) {
            wrong++;
            System.out.println(call + " answered " + got + ", due is " + want);
        }
    }

    static void due(String call, String got, String want) {
        if (!got.equals(want)) {
            wrong++;
            System.out.println(call + " answered " + got + ", due is " + want);
        }
    }

    /** Ends a test's main method: with exit code 1 if an answer was wrong. */
    static void end() {
        if (wrong != 0) {
            System.out.println(wrong + " answers are not as due");
            System.exit(1);
        }
    }

    /** Feeds a text to THE TAPE, a byte a call. */
    static void feed(GutterRights x, String text) {
        for (int i = 0; i < text.length(); i++) {
            x.feed(text.charAt(i), 1);
        }
    }

    static int text(GutterRights x, String text) {
        feed(x, text);
        return x.text();
    }

    /** A sheet with these numbers. */
    static void sheet(GutterRights x, int s, int bits, int... numbers) {
        x.sheet(s, bits, numbers.length);
        for (int i = 0; i < numbers.length; i++) {
            x.write(s, i, numbers[i]);
        }
    }

    /**
     * All that calls can tell of an object without a change, status() left out: what must stay when a
     * call answers a finding. Numbers of sheets are read by copies to sheet 3, which is used up.
     */
    static String stateOf(GutterRights x) {
        StringBuilder all = new StringBuilder();
        for (int house = 0; house < 11; house++) {
            for (int what = 0; what < 6; what++) {
                all.append(x.of(house, what)).append(' ');
            }
        }
        for (int what = 0; what < 7; what++) {
            all.append(x.now(what)).append(' ');
        }
        for (int what = 0; what < 8; what++) {
            all.append(x.count(what)).append(' ');
        }
        for (int spot = 0; spot < 10; spot++) {
            all.append(x.as(spot, 0)).append(' ');
        }
        for (int s = 0; s < 3; s++) {
            all.append(numbersOf(x, s)).append(' ');
        }
        return all.toString();
    }

    /** Numbers of a sheet (each as judge() and load() see it alone: a HOUSE, a NEED or another). */
    static String numbersOf(GutterRights x, int s) {
        StringBuilder all = new StringBuilder("[");
        for (int bits = 8; bits <= 32; bits *= 2) {
            x.sheet(3, bits, 1);
            for (int i = 0; x.copy(s, i, 3, 0, 1) == 1; i++) {
                all.append(bits).append(':').append(numberOf(x)).append(' ');
            }
        }
        x.sheet(3, 0, 0);
        return all.append(']').toString();
    }

    private static int numberOf(GutterRights x) {
        int need = x.of(0, 2);
        int number = x.load(3) == 1 ? x.of(0, 2) : -1;
        x.change(0, 2, need);
        return number;
    }
}
