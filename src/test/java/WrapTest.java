/** Wrap-around: z (an int), numbers of 8, 16 and 32 bits, the lowest bytes that feed() takes. */
public final class WrapTest {

    public static void main(String[] args) {
        zWraps();
        drawsOfNegatives();
        zIsNoFinding();
        numbersOf8Bits();
        numbersOf16Bits();
        numbersOf32Bits();
        allOf8Bits();
        signsStay();
        lowestBytes();
        signsInTexts();
        Due.end();
    }

    /** "each makes it z * 1103515245 + 12345 (an int)": by hand, from both ends and around 0. */
    private static void zWraps() {
        int[][] due = {
            {0, 12345}, {1, 1103527590}, {-1, -1103502900}, {2, (int) (2207042835L - (1L << 32))},
            {Integer.MAX_VALUE, 1043980748}, {Integer.MIN_VALUE, -2147471303},
        };
        for (int[] d : due) {
            GutterRights x = new GutterRights();
            x.seed(d[0]);
            x.showers(1);
            Due.due("z behind " + d[0], x.count(6), d[1]);
            Due.due("z behind " + d[0] + ", by seed", x.seed(0), d[1]);
        }
    }

    /** "and gives z >>> 8": a negative z gives a number above 0, of 24 bits. */
    private static void drawsOfNegatives() {
        int[][] due = {{0, 48}, {-1, 4667307}, {Integer.MIN_VALUE, 8388656}, {Integer.MAX_VALUE, 4078049}};
        due[1][1] = (int) ((-1103502900L + (1L << 32)) / 256);
        for (int[] d : due) {
            GutterRights x = new GutterRights();
            x.seed(d[0]);
            x.showers(1);
            Due.due("rain by " + d[0], x.now(6), d[1] % 100);
        }
    }

    /** "What seed() and count(6) tell, z, may be any int: that is no finding." */
    private static void zIsNoFinding() {
        GutterRights x = new GutterRights();
        int was = 1;
        for (int z = -1000008; z <= -999999; z++) {
            Due.due("seed(" + z + ")", x.seed(z), was);
            Due.due("count(6)", x.count(6), z);
            was = z;
        }
        Due.due("seed(least)", x.seed(Integer.MIN_VALUE), was);
        Due.due("count(6), least", x.count(6), Integer.MIN_VALUE);
        Due.due("seed(greatest)", x.seed(Integer.MAX_VALUE), Integer.MIN_VALUE);
        Due.due("count(6), greatest", x.count(6), Integer.MAX_VALUE);
        for (int which = -1; which <= 6; which++) {
            Due.due("status(" + which + ")", x.status(which), 0);
        }
    }

    private static final int NEGATIVE = -2;

    private static void numbersOf8Bits() {
        seen(8, 0, 0);
        seen(8, 127, 127);
        seen(8, 128, NEGATIVE);
        seen(8, 254, NEGATIVE);
        seen(8, 255, -1);
        seen(8, 256, 0);
        seen(8, 256 + 127, 127);
        seen(8, 511, -1);
        seen(8, -1, -1);
        seen(8, -2, NEGATIVE);
        seen(8, -128, NEGATIVE);
        seen(8, -129, 127);
        seen(8, -256, 0);
        seen(8, -257, -1);
        seen(8, Integer.MAX_VALUE, -1);
        seen(8, Integer.MIN_VALUE, 0);
        seen(8, Integer.MIN_VALUE + 9, 9);
    }

    private static void numbersOf16Bits() {
        seen(16, 255, 255);
        seen(16, 256, 256);
        seen(16, 9999, 9999);
        seen(16, 32767, NEGATIVE);
        seen(16, 32768, NEGATIVE);
        seen(16, 65534, NEGATIVE);
        seen(16, 65535, -1);
        seen(16, 65536, 0);
        seen(16, 65536 + 9999, 9999);
        seen(16, -1, -1);
        seen(16, -65536 + 300, 300);
        seen(16, -32769 - 22769, 9998);
        seen(16, Integer.MAX_VALUE, -1);
        seen(16, Integer.MIN_VALUE, 0);
    }

    private static void numbersOf32Bits() {
        seen(32, 255, 255);
        seen(32, 9999, 9999);
        seen(32, 65535, NEGATIVE);
        seen(32, 65536, NEGATIVE);
        seen(32, 65536 + 5, NEGATIVE);
        seen(32, -1, -1);
        seen(32, -256, NEGATIVE);
        seen(32, -65536, NEGATIVE);
        seen(32, Integer.MAX_VALUE, NEGATIVE);
        seen(32, Integer.MIN_VALUE, NEGATIVE);
    }

    /** A number that is v then: as WATER of HOUSE 0 it lets turned() find all, as -1 it does so for any. */
    private static void seen(int bits, int written, int v) {
        GutterRights x = new GutterRights();
        x.sheet(0, bits, 1);
        Due.due("write " + written, x.write(0, 0, written), 1);
        String call = written + " of " + bits + " bits ";
        x.change(0, 1, v >= 0 ? v : 5);
        Due.due(call + "as WATER", x.turned(0, 0), v == NEGATIVE ? 0 : 2047);
        Due.due(call + "as WATER, by kinds()", x.kinds(0, 0), v == NEGATIVE ? 0 : 127);
        x.change(0, 1, v >= 0 ? v ^ 1 : 6);
        Due.due(call + "as other WATER", x.turned(0, 0), v == -1 ? 2047 : 0);
        Due.due(call + "as NEED", x.load(0), v >= 0 && v <= 99 ? 1 : 0);
        Due.due(call + "as HOUSE", x.judge(0), v >= 0 && v <= 10 ? 0 : 1);
    }

    private static void allOf8Bits() {
        for (int v = 0; v < 256; v++) {
            GutterRights x = new GutterRights();
            x.sheet(0, 8, 1);
            x.write(0, 0, v);
            Due.due("load of " + v, x.load(0), v <= 99 ? 1 : 0);
        }
    }

    /** Numbers keep their sign when they are copied. */
    private static void signsStay() {
        GutterRights x = new GutterRights();
        for (int bits = 8; bits <= 32; bits *= 2) {
            Due.sheet(x, 0, bits, -1, -2, 3);
            x.sheet(1, bits, 2);
            x.copy(0, 0, 1, 0, 1);
            x.copy(0, 0, 1, 1, 1);
            Due.due("any, any of " + bits, x.turned(1, 0), 2047);
            x.copy(0, 1, 1, 1, 1);
            Due.due("any, -2 of " + bits, x.turned(1, 0), 0);
            Due.due("load of " + bits, x.load(0), 0);
        }
    }

    /** Promise 29: "the n lowest bytes of a number, the highest of these first". */
    private static void lowestBytes() {
        GutterRights x = new GutterRights();
        x.feed('r' << 24 | 'a' << 16 | 'i' << 8 | 'n', 4);
        x.feed('9' << 24 | ' ' << 16 | '1' << 8 | '2', 3);
        x.feed('9' << 24 | '9' << 16 | '9' << 8 | '3', 1);
        Due.due("length", x.count(5), 8);
        Due.due("text", x.text(), 1);
        Due.due("rain", x.now(6), 123);
        x.feed('r' << 24 | 'a' << 16 | 'i' << 8 | 'n', 4);
        x.feed(-65536 | ' ' << 8 | '4', 2);
        x.feed(-256 | '5', 1);
        Due.due("text of negatives", x.text(), 1);
        Due.due("rain of negatives", x.now(6), 45);
    }

    /** Bytes of 128 to 255 begin no TOKEN. */
    private static void signsInTexts() {
        GutterRights x = new GutterRights();
        Due.feed(x, "rain 5");
        x.feed(-1, 1);
        Due.due("byte 255", x.text(), -7);
        Due.feed(x, "rain 5 ");
        x.feed(128 + ';', 1);
        Due.due("byte 128 and ;", x.text(), -8);
        x.feed(128 + 'r', 1);
        Due.due("byte 128 and r", x.text(), -1);
        x.feed(0x80808080, 4);
        Due.due("bytes 128", x.text(), -1);
        Due.due("rain stays", x.now(6), 20);
    }
}
