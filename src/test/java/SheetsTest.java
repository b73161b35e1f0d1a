/** Promises 32 to 38: hold, as, sheet, write, copy, load, judge. */
public final class SheetsTest {

    public static void main(String[] args) {
        hold();
        as();
        sheet();
        write();
        copy();
        copyFindings();
        load();
        judge();
        Due.end();
    }

    private static void hold() {
        GutterRights x = new GutterRights();
        for (int spot = 0; spot < 10; spot++) {
            Due.due("hold(" + spot + ", ..)", x.hold(spot, spot + 1), 1);
            Due.due("count(7)", x.count(7), spot + 1);
        }
        Due.due("as(9, 0)", x.as(9, 0), 10);
        Due.due("hold(9, 0)", x.hold(9, 0), 1);
        Due.due("as(9, 0) then", x.as(9, 0), 0);
        Due.due("hold(9, -1)", x.hold(9, -1), 1);
        Due.due("count(7) then", x.count(7), 9);
        Due.due("as(9, 0), nothing", x.as(9, 0), Due.MISSING);
        Due.due("hold(9, -1) again", x.hold(9, -1), 1);
        Due.due("hold(10, 0)", x.hold(10, 0), Due.BEYOND);
        Due.due("hold(-1, 0)", x.hold(-1, 0), Due.BEYOND);
        Due.due("hold(0, 11)", x.hold(0, 11), Due.BEYOND);
        Due.due("hold(0, -2)", x.hold(0, -2), Due.BEYOND);
        Due.due("as(0, 0)", x.as(0, 0), 1);
    }

    /** Rows: KINDS of the HOUSE; columns: the kind as which it is asked. */
    private static void as() {
        boolean[][] due = {
            {true, false, false, false, false, false, false},
            {true, true, false, false, false, false, false},
            {true, false, true, false, false, false, false},
            {true, false, true, true, false, false, false},
            {true, false, true, true, true, false, false},
            {true, false, false, false, false, true, false},
            {true, true, false, false, false, false, true},
        };
        GutterRights x = new GutterRights();
        x.hold(4, 8);
        for (int kind = 0; kind < 7; kind++) {
            x.change(8, 0, kind);
            for (int asked = 0; asked < 7; asked++) {
                Due.due(kind + " as " + asked, x.as(4, asked), due[kind][asked] ? 8 : Due.KIND);
            }
        }
        Due.due("as(5, 7) is BEYOND first", x.as(5, 7), Due.BEYOND);
        Due.due("as(5, -1)", x.as(5, -1), Due.BEYOND);
        Due.due("as(10, 0)", x.as(10, 0), Due.BEYOND);
        Due.due("as(-1, 0)", x.as(-1, 0), Due.BEYOND);
        Due.due("as(5, 3), nothing", x.as(5, 3), Due.MISSING);
        Due.due("status(2)", x.status(2), 49 - 17);
    }

    private static void sheet() {
        GutterRights x = new GutterRights();
        Due.due("sheet(0, 8, 40)", x.sheet(0, 8, 40), 40);
        Due.due("sheet(1, 16, 1)", x.sheet(1, 16, 1), 1);
        Due.due("sheet(3, 32, 0)", x.sheet(3, 32, 0), 0);
        Due.due("not missing", x.judge(3), 0);
        x.write(0, 39, 5);
        Due.due("sheet(0, 8, 40) again", x.sheet(0, 8, 40), 40);
        Due.due("all 0", x.load(0), 11);
        Due.due("need 0", x.of(10, 2), 0);
        Due.sheet(x, 2, 8, 5, 6, 7);
        x.sheet(2, 8, 3);
        Due.due("all 0 again", Due.numbersOf(x, 2), "[8:0 8:0 8:0 ]");
        Due.sheet(x, 2, 8, 5, 6, 7);
        x.sheet(2, 16, 1);
        x.sheet(2, 0, 0);
        x.sheet(2, 16, 2);
        Due.due("all 0, of other bits", Due.numbersOf(x, 2), "[16:0 16:0 ]");
        Due.due("sheet(0, 0, 40)", x.sheet(0, 0, 40), 0);
        Due.due("missing", x.write(0, 0, 1), Due.MISSING);
        Due.due("sheet(4, 8, 1)", x.sheet(4, 8, 1), Due.BEYOND);
        Due.due("sheet(-1, 8, 1)", x.sheet(-1, 8, 1), Due.BEYOND);
        Due.due("sheet(4, 8, -1) is BEYOND first", x.sheet(4, 8, -1), Due.BEYOND);
        Due.due("sheet(0, 9, -1) is BEYOND first", x.sheet(0, 9, -1), Due.BEYOND);
        Due.due("sheet(0, 24, 1)", x.sheet(0, 24, 1), Due.BEYOND);
        Due.due("sheet(0, -8, 1)", x.sheet(0, -8, 1), Due.BEYOND);
        Due.due("sheet(0, 64, 1)", x.sheet(0, 64, 1), Due.BEYOND);
        Due.due("sheet(1, 8, -1)", x.sheet(1, 8, -1), Due.SIZE);
        Due.due("sheet(1, 0, -1)", x.sheet(1, 0, -1), Due.SIZE);
        Due.due("sheet(1, 8, 41)", x.sheet(1, 8, 41), Due.BEYOND);
        Due.due("sheet(1, 0, 41)", x.sheet(1, 0, 41), Due.BEYOND);
        Due.due("sheet 1 stays", x.write(1, 0, 1), 1);
        Due.due("status(6)", x.status(6), 2);
    }

    /** Numbers are seen by load(), which takes 0 to 99, and by turned(), to which -1 is any. */
    private static void write() {
        GutterRights x = new GutterRights();
        seen(x, 8, 256 + 7, 7);
        seen(x, 8, 127, -2);
        seen(x, 8, -128, -2);
        seen(x, 8, 128 + 5, -2);
        seen(x, 8, -256 + 9, 9);
        seen(x, 8, 255, -1);
        seen(x, 8, -1, -1);
        seen(x, 16, 256 + 7, -2);
        seen(x, 16, 65536 + 7, 7);
        seen(x, 16, 65535, -1);
        seen(x, 16, 32768 + 5, -2);
        seen(x, 32, 65536 + 7, -2);
        seen(x, 32, 65535, -2);
        seen(x, 32, 99, 99);
        seen(x, 32, -1, -1);
        seen(x, 32, Integer.MIN_VALUE, -2);
        x.sheet(1, 16, 2);
        Due.due("write(1, 2, 0)", x.write(1, 2, 0), Due.BEYOND);
        Due.due("write(1, -1, 0)", x.write(1, -1, 0), Due.BEYOND);
        Due.due("write(1, 1, 5)", x.write(1, 1, 5), 1);
        Due.due("write(2, 50, 5), missing first", x.write(2, 50, 5), Due.MISSING);
        Due.due("write(4, 0, 5)", x.write(4, 0, 5), Due.BEYOND);
        Due.due("write(-1, 0, 5)", x.write(-1, 0, 5), Due.BEYOND);
    }

    /** What a number is then: 0 to 99, or -1, or another (-2). */
    private static void seen(GutterRights x, int bits, int v, int due) {
        x.sheet(0, bits, 1);
        Due.due("write " + v, x.write(0, 0, v), 1);
        x.change(0, 2, 50);
        int came = x.load(0);
        int number = came == 1 ? x.of(0, 2) : x.turned(0, 0) == 2047 ? -1 : -2;
        Due.due(v + " of " + bits + " bits", number, due);
    }

    private static void copy() {
        GutterRights x = new GutterRights();
        Due.sheet(x, 0, 8, 1, 2, 3, 4, 5);
        Due.sheet(x, 1, 8, 11, 12, 13);
        Due.due("copy(0, 1, 1, 0, 2)", x.copy(0, 1, 1, 0, 2), 2);
        Due.due("sheet 1", Due.numbersOf(x, 1), "[8:2 8:3 8:13 ]");
        Due.due("sheet 0", Due.numbersOf(x, 0), "[8:1 8:2 8:3 8:4 8:5 ]");
        Due.due("copy ahead", x.copy(0, 0, 0, 1, 4), 4);
        Due.due("sheet 0, on", Due.numbersOf(x, 0), "[8:1 8:1 8:2 8:3 8:4 ]");
        Due.due("copy back", x.copy(0, 2, 0, 0, 3), 3);
        Due.due("sheet 0, back", Due.numbersOf(x, 0), "[8:2 8:3 8:4 8:3 8:4 ]");
        Due.due("copy to the end", x.copy(1, 0, 0, 2, 3), 3);
        Due.due("sheet 0, end", Due.numbersOf(x, 0), "[8:2 8:3 8:2 8:3 8:13 ]");
        Due.due("copy none", x.copy(1, 3, 0, 5, 0), 0);
        Due.due("sheet 0 stays", Due.numbersOf(x, 0), "[8:2 8:3 8:2 8:3 8:13 ]");
    }

    private static void copyFindings() {
        int most = Integer.MAX_VALUE;
        GutterRights x = new GutterRights();
        Due.sheet(x, 0, 8, 1, 2, 3, 4, 5);
        Due.sheet(x, 1, 8, 11, 12, 13);
        Due.sheet(x, 2, 16, 21, 22, 23);
        Due.due("copy from 4", x.copy(4, 0, 3, 0, 1), Due.BEYOND);
        Due.due("copy to 4", x.copy(3, 0, 4, 0, 1), Due.BEYOND);
        Due.due("copy from -1", x.copy(-1, 0, 0, 0, 1), Due.BEYOND);
        Due.due("copy to -1", x.copy(0, 0, -1, 0, 1), Due.BEYOND);
        Due.due("copy from missing", x.copy(3, 0, 0, 0, -1), Due.MISSING);
        Due.due("copy to missing", x.copy(0, 0, 3, 0, 99), Due.MISSING);
        Due.due("copy 8 to 16", x.copy(0, 0, 2, 0, 99), Due.KIND);
        Due.due("copy 16 to 8", x.copy(2, -1, 0, 0, 1), Due.KIND);
        Due.due("from below 0", x.copy(0, -1, 1, 0, 1), Due.BEYOND);
        Due.due("to below 0", x.copy(0, 0, 1, -1, 1), Due.BEYOND);
        Due.due("n below 0", x.copy(0, 0, 1, 0, -1), Due.BEYOND);
        Due.due("target too short", x.copy(0, 0, 1, 0, 4), Due.BEYOND);
        Due.due("target too short, from 1", x.copy(0, 0, 1, 1, 3), Due.BEYOND);
        Due.due("source too short", x.copy(1, 0, 0, 0, 4), Due.BEYOND);
        Due.due("source too short, from 2", x.copy(1, 2, 0, 0, 2), Due.BEYOND);
        Due.due("none from behind the end", x.copy(1, 4, 0, 0, 0), Due.BEYOND);
        Due.due("none to behind the end", x.copy(0, 0, 1, 4, 0), Due.BEYOND);
        Due.due("from most", x.copy(0, most, 1, 0, 1), Due.BEYOND);
        Due.due("to most", x.copy(0, 0, 1, most, most), Due.BEYOND);
        Due.due("n most", x.copy(0, 1, 1, 1, most), Due.BEYOND);
        Due.due("n least", x.copy(0, 1, 1, 1, Integer.MIN_VALUE), Due.BEYOND);
        Due.due("sheet 0", Due.numbersOf(x, 0), "[8:1 8:2 8:3 8:4 8:5 ]");
        Due.due("sheet 1", Due.numbersOf(x, 1), "[8:11 8:12 8:13 ]");
        Due.due("sheet 2", Due.numbersOf(x, 2), "[16:21 16:22 16:23 ]");
    }

    private static void load() {
        GutterRights x = new GutterRights();
        Due.due("load(0), missing", x.load(0), Due.MISSING);
        Due.due("load(4)", x.load(4), Due.BEYOND);
        Due.due("load(-1)", x.load(-1), Due.BEYOND);
        Due.sheet(x, 0, 16);
        Due.due("load nothing", x.load(0), 0);
        Due.sheet(x, 0, 16, 99, 0, 100, 5);
        Due.due("load up to 100", x.load(0), 2);
        Due.due("need of 0", x.of(0, 2), 99);
        Due.due("need of 1", x.of(1, 2), 0);
        Due.due("need of 2", x.of(2, 2), 2);
        Due.due("need of 3", x.of(3, 2), 2);
        Due.sheet(x, 0, 16, 7, -1, 5);
        Due.due("load up to -1", x.load(0), 1);
        Due.due("need of 0 then", x.of(0, 2), 7);
        Due.due("need of 1 then", x.of(1, 2), 0);
        Due.sheet(x, 0, 8, 1, 2, 3, 4, 5, 6, 7, 8, 9, 10, 11, 12, 13);
        Due.due("load all houses", x.load(0), 11);
        Due.due("need of 10", x.of(10, 2), 11);
    }

    private static void judge() {
        GutterRights x = new GutterRights();
        Due.due("judge(0), missing", x.judge(0), Due.MISSING);
        Due.due("judge(4)", x.judge(4), Due.BEYOND);
        Due.due("judge(-1)", x.judge(-1), Due.BEYOND);
        x.spouts(1 << 2 | 1 << 9);
        judged(x, 0);
        judged(x, 0, 10);
        judged(x, 1, 11);
        judged(x, 1, -1);
        judged(x, 0, 0, 1, 2, 4, 5, 6, 7, 8, 9);
        judged(x, 10, 0, 1, 2, 4, 5, 6, 7, 8, 9, 10);
        judged(x, 4, 0, 1, 2, 3, 4);
        judged(x, 2, 0, 0);
        judged(x, 2, 4, 3);
        judged(x, 2, 10, -1);
        judged(x, 2, 10, 11);
        judged(x, 2, 9, -1);
        judged(x, 1, -1, 5, 9);
        judged(x, 3, 5, 6, 100, 3);
        judged(x, 2, 5, 7, 100);
    }

    private static void judged(GutterRights x, int due, int... numbers) {
        Due.sheet(x, 1, 8, numbers);
        Due.due("judge " + java.util.Arrays.toString(numbers), x.judge(1), due);
    }
}
