/**
 * Terms: "Each act tells its findings in the order in which they are asked (that of its words); one that
 * answers a finding changes nothing but status()." Here several findings would do, or a single one that
 * isn't BEYOND. (STATE, which 512 calls can't reach, is in HoursTest.)
 */
public final class OrderTest {

    public static void main(String[] args) {
        numbersOfFindings();
        beyondAheadOfNone();
        none();
        whatWasSeen();
        feed();
        as();
        sheet();
        write();
        copy();
        loadAndJudge();
        images();
        Due.end();
    }

    /** "LOW BEYOND, LOW - 1 FULL, LOW - 2 KIND, LOW - 3 NONE, LOW - 4 STATE, LOW - 5 MISSING, LOW - 6 SIZE". */
    private static void numbersOfFindings() {
        GutterRights x = new GutterRights();
        Due.due("BEYOND", x.now(-1), -1000001);
        for (int i = 0; i < 30; i++) {
            x.feed(0, 4);
        }
        Due.due("FULL", x.feed(0, 1), -1000002);
        x.hold(0, 0);
        Due.due("KIND", x.as(0, 1), -1000003);
        Due.due("NONE", x.undo(), -1000004);
        Due.due("MISSING", x.as(1, 0), -1000006);
        Due.due("SIZE", x.sheet(0, 8, -1), -1000007);
        Due.due("BEYOND, in longs too", x.odds(0, 0, 2), -1000001L);
        int[] found = {2, 1, 1, 1, 0, 1, 1};
        for (int which = 0; which < 7; which++) {
            Due.due("status(" + which + ")", x.status(which), found[which]);
        }
        Due.due("status(-1)", x.status(-1), 7);
    }

    /** In a quarter without RAIN and WATER all of these would be NONE. */
    private static GutterRights arid() {
        GutterRights x = new GutterRights();
        x.rain(0);
        x.change(1, 0, 6);
        return x;
    }

    private static void beyondAheadOfNone() {
        Bounds.refused("when(11, 5)", Due.BEYOND, OrderTest::arid, x -> x.when(11, 5));
        Bounds.refused("when(1, 10000)", Due.BEYOND, OrderTest::arid, x -> x.when(1, 10000));
        Bounds.refused("rainFor(11, 3)", Due.BEYOND, OrderTest::arid, x -> x.rainFor(11, 3));
        Bounds.refused("rainFor(1, 41)", Due.BEYOND, OrderTest::arid, x -> x.rainFor(1, 41));
        Bounds.refused("holdsFor(-1, 3)", Due.BEYOND, OrderTest::arid, x -> x.holdsFor(-1, 3));
        Bounds.refused("holdsFor(1, 41)", Due.BEYOND, OrderTest::arid, x -> x.holdsFor(1, 41));
        Bounds.refused("needFor(11, 3)", Due.BEYOND, OrderTest::arid, x -> x.needFor(11, 3));
        Bounds.refused("needFor(1, 41)", Due.BEYOND, OrderTest::arid, x -> x.needFor(1, 41));
        Bounds.refused("turn(2048, 3)", Due.BEYOND, OrderTest::arid, x -> x.turn(2048, 3));
        Bounds.refused("turn(2, 13)", Due.BEYOND, OrderTest::arid, x -> x.turn(2, 13));
    }

    private static void none() {
        Bounds.refused("when(1, 5)", Due.NONE, OrderTest::arid, x -> x.when(1, 5));
        Bounds.refused("rainFor(1, 3)", Due.NONE, OrderTest::arid, x -> x.rainFor(1, 3));
        Bounds.refused("holdsFor(1, 3)", Due.NONE, OrderTest::arid, x -> x.holdsFor(1, 3));
        Bounds.refused("needFor(1, 3)", Due.NONE, OrderTest::arid, x -> x.needFor(1, 3));
        Bounds.refused("turn(2, 3)", Due.NONE, OrderTest::arid, x -> x.turn(2, 3));
        Bounds.refused("when, busy", Due.NONE, x -> x.when(10, 9999));
        Bounds.refused("rainFor, busy", Due.NONE, OrderTest::busyAndDry, x -> x.rainFor(6, 1));
        Bounds.refused("holdsFor, busy", Due.NONE, OrderTest::busyAndDry, x -> x.holdsFor(6, 1));
        Bounds.refused("needFor, busy", Due.NONE, OrderTest::busyAndDry, x -> x.needFor(6, 1));
        Bounds.refused("turn, busy", Due.NONE, OrderTest::busyAndDry, x -> x.turn(2047, 12));
        // A font with NEED 2 that gets 1 in each HOUR has 1, then 0, then 1, and so on.
        Bounds.refused("settles", Due.NONE, OrderTest::restless, GutterRights::settles);
    }

    /** HOUSE 6, an INVALID, is DRY in the next HOUR, whatever its NEED is. */
    private static GutterRights busyAndDry() {
        GutterRights x = Bounds.busy();
        x.change(6, 1, 0);
        return x;
    }

    private static GutterRights restless() {
        GutterRights x = new GutterRights();
        x.rain(1);
        x.change(0, 0, 1);
        x.change(0, 1, 1);
        return x;
    }

    private static void whatWasSeen() {
        Bounds.refused("turned(4, 11)", Due.BEYOND, x -> x.turned(4, 11));
        Bounds.refused("turned(3, 11), missing", Due.MISSING, x -> x.turned(3, 11));
        Bounds.refused("turned(3, 3), missing", Due.MISSING, x -> x.turned(3, 3));
        Bounds.refused("turned(2, 11), of no numbers", Due.BEYOND, x -> x.turned(2, 11));
        Bounds.refused("kinds(-1, -1)", Due.BEYOND, x -> x.kinds(-1, -1));
        Bounds.refused("kinds(3, 11), missing", Due.MISSING, x -> x.kinds(3, 11));
        Bounds.refused("kinds(3, 3), missing", Due.MISSING, x -> x.kinds(3, 3));
        Bounds.refused("kinds(2, -1), of no numbers", Due.BEYOND, x -> x.kinds(2, -1));
    }

    /** THE TAPE is nearly full. */
    private static GutterRights longTape() {
        GutterRights x = new GutterRights();
        Due.feed(x, "rain ");
        for (int i = 0; i < 28; i++) {
            x.feed('0' << 24 | '0' << 16 | '0' << 8 | '0', 4);
        }
        x.feed('0' << 8 | '5', 2);
        return x;
    }

    private static void feed() {
        Bounds.refused("feed(.., 4) to 119", Due.FULL, OrderTest::longTape, x -> x.feed('6', 4));
        Bounds.refused("feed(.., 3) to 119", Due.FULL, OrderTest::longTape, x -> x.feed('6', 3));
        Bounds.refused("feed(.., 2) to 119", Due.FULL, OrderTest::longTape, x -> x.feed('6', 2));
        Bounds.refused("feed(.., 5) to 119", Due.BEYOND, OrderTest::longTape, x -> x.feed('6', 5));
        Bounds.refused("feed(.., 0) to 119", Due.BEYOND, OrderTest::longTape, x -> x.feed('6', 0));
        GutterRights x = longTape();
        Due.due("feed(.., 1) to 119", x.feed(' ', 1), 120);
        Due.due("feed(.., 1) to 120", x.feed(' ', 1), Due.FULL);
        Due.due("feed(.., 5) to 120", x.feed(' ', 5), Due.BEYOND);
        Due.due("text of 120", x.text(), 1);
        Due.due("rain of 120", x.now(6), 5);
    }

    /** SPOT 0 holds HOUSE 1, a FONT; SPOT 9 holds nothing. */
    private static void as() {
        Bounds.refused("as(10, 7)", Due.BEYOND, x -> x.as(10, 7));
        Bounds.refused("as(9, 7), nothing", Due.BEYOND, x -> x.as(9, 7));
        Bounds.refused("as(9, 2), nothing", Due.MISSING, x -> x.as(9, 2));
        Bounds.refused("as(9, 0), nothing", Due.MISSING, x -> x.as(9, 0));
        Bounds.refused("as(0, 7), a font", Due.BEYOND, x -> x.as(0, 7));
        for (int kind = 2; kind < 7; kind++) {
            int k = kind;
            Bounds.refused("as(0, " + k + "), a font", Due.KIND, x -> x.as(0, k));
        }
    }

    private static void sheet() {
        Bounds.refused("sheet(4, 9, -1)", Due.BEYOND, x -> x.sheet(4, 9, -1));
        Bounds.refused("sheet(4, 8, -1)", Due.BEYOND, x -> x.sheet(4, 8, -1));
        Bounds.refused("sheet(-1, 0, -1)", Due.BEYOND, x -> x.sheet(-1, 0, -1));
        Bounds.refused("sheet(0, 9, -1)", Due.BEYOND, x -> x.sheet(0, 9, -1));
        Bounds.refused("sheet(0, 1, 41)", Due.BEYOND, x -> x.sheet(0, 1, 41));
        Bounds.refused("sheet(0, 8, -1)", Due.SIZE, x -> x.sheet(0, 8, -1));
        Bounds.refused("sheet(0, 0, -1)", Due.SIZE, x -> x.sheet(0, 0, -1));
        Bounds.refused("sheet(3, 0, -1), missing", Due.SIZE, x -> x.sheet(3, 0, -1));
        Bounds.refused("sheet(0, 0, 41)", Due.BEYOND, x -> x.sheet(0, 0, 41));
        Bounds.refused("sheet(3, 0, 41), missing", Due.BEYOND, x -> x.sheet(3, 0, 41));
    }

    private static void write() {
        Bounds.refused("write(4, 50, 1)", Due.BEYOND, x -> x.write(4, 50, 1));
        Bounds.refused("write(3, -1, 1), missing", Due.MISSING, x -> x.write(3, -1, 1));
        Bounds.refused("write(3, 0, 1), missing", Due.MISSING, x -> x.write(3, 0, 1));
        Bounds.refused("write(3, 50, 1), missing", Due.MISSING, x -> x.write(3, 50, 1));
        Bounds.refused("write(0, 3, 1)", Due.BEYOND, x -> x.write(0, 3, 1));
    }

    /** Sheets 0, 1, 2 are of 8, 16, 32 bits; sheet 3 is MISSING. */
    private static void copy() {
        Bounds.refused("copy: no such sheet, missing", Due.BEYOND, x -> x.copy(4, 0, 3, 0, 1));
        Bounds.refused("copy: missing, no such sheet", Due.BEYOND, x -> x.copy(3, 0, -1, 0, 1));
        Bounds.refused("copy: no such sheets", Due.BEYOND, x -> x.copy(4, -1, 4, -1, -1));
        Bounds.refused("copy: both missing", Due.MISSING, x -> x.copy(3, 0, 3, 0, 0));
        Bounds.refused("copy: missing, none", Due.MISSING, x -> x.copy(3, 0, 0, 0, 0));
        Bounds.refused("copy: to missing, none", Due.MISSING, x -> x.copy(0, 0, 3, 0, 0));
        Bounds.refused("copy: missing, too many", Due.MISSING, x -> x.copy(3, 0, 0, 0, 50));
        Bounds.refused("copy: to missing, below 0", Due.MISSING, x -> x.copy(0, -1, 3, -1, -1));
        Bounds.refused("copy: 8 to 16", Due.KIND, x -> x.copy(0, 0, 1, 0, 1));
        Bounds.refused("copy: 8 to 16, none", Due.KIND, x -> x.copy(0, 0, 1, 0, 0));
        Bounds.refused("copy: 16 to 32, below 0", Due.KIND, x -> x.copy(1, -1, 2, 0, 0));
        Bounds.refused("copy: 32 to 8, too many", Due.KIND, x -> x.copy(2, 0, 0, 0, 41));
        Bounds.refused("copy: 32 to 16, below 0", Due.KIND, x -> x.copy(2, 0, 1, -1, -1));
        Bounds.refused("copy: one too many", Due.BEYOND, x -> x.copy(0, 0, 0, 0, 4));
        Bounds.refused("copy: source has not so many", Due.BEYOND, OrderTest::sheets, x -> x.copy(0, 0, 1, 0, 3));
        Bounds.refused("copy: target has not so many", Due.BEYOND, OrderTest::sheets, x -> x.copy(1, 0, 0, 0, 3));
        Bounds.refused("copy: source, from one on", Due.BEYOND, OrderTest::sheets, x -> x.copy(0, 1, 1, 0, 2));
        Bounds.refused("copy: target, from one on", Due.BEYOND, OrderTest::sheets, x -> x.copy(1, 0, 0, 1, 2));
    }

    /** Sheets of two and of five numbers, of as many bits. */
    private static GutterRights sheets() {
        GutterRights x = new GutterRights();
        Due.sheet(x, 0, 16, 7, 8);
        Due.sheet(x, 1, 16, 1, 2, 3, 4, 5);
        return x;
    }

    private static void loadAndJudge() {
        Bounds.refused("load(3), missing", Due.MISSING, x -> x.load(3));
        Bounds.refused("load(4)", Due.BEYOND, x -> x.load(4));
        Bounds.refused("judge(3), missing", Due.MISSING, x -> x.judge(3));
        Bounds.refused("judge(4)", Due.BEYOND, x -> x.judge(4));
    }

    private static void images() {
        Bounds.refused("undo, nothing kept", Due.NONE, OrderTest::arid, GutterRights::undo);
        Bounds.refused("undo behind tear", Due.NONE, OrderTest::torn, GutterRights::undo);
        Bounds.refused("status(7)", Due.BEYOND, x -> x.status(7));
        Bounds.refused("count(8)", Due.BEYOND, x -> x.count(8));
    }

    private static GutterRights torn() {
        GutterRights x = Bounds.busy();
        x.tear();
        return x;
    }
}
