/** Promises 1 to 6: a new object, change, of, rain, spouts, pour. */
public final class HousesTest {

    public static void main(String[] args) {
        newObject();
        change();
        usesKeepsLoses();
        leads();
        rain();
        spouts();
        pour();
        Due.end();
    }

    private static void newObject() {
        GutterRights x = new GutterRights();
        int[] first = {0, 0, 2, 10, 0, 0, 2, 10, 0};
        for (int house = 0; house < 11; house++) {
            for (int what = 0; what < first.length; what++) {
                Due.due("new: of(" + house + ", " + what + ")", x.of(house, what), first[what]);
            }
        }
        int[] now = {0, 0, 0, 0, 0, 0, 20};
        for (int what = 0; what < now.length; what++) {
            Due.due("new: now(" + what + ")", x.now(what), now[what]);
        }
        int[] count = {0, 0, 0, 0, 0, 0, 1, 0};
        for (int what = 0; what < count.length; what++) {
            Due.due("new: count(" + what + ")", x.count(what), count[what]);
        }
        for (int which = -1; which < 7; which++) {
            Due.due("new: status(" + which + ")", x.status(which), 0);
        }
        for (int spot = 0; spot < 10; spot++) {
            Due.due("new: as(" + spot + ", 0)", x.as(spot, 0), Due.MISSING);
        }
        for (int s = 0; s < 4; s++) {
            Due.due("new: judge(" + s + ")", x.judge(s), Due.MISSING);
        }
        Due.due("new: undo", x.undo(), Due.NONE);
        Due.due("new: tear", x.tear(), 0);
        Due.due("new: wipe", x.wipe(), 0);
    }

    private static void change() {
        GutterRights x = new GutterRights();
        int[] was = {0, 0, 2, 10, 0, 0};
        int[] most = {6, 9999, 99, 999, 1, 9999};
        for (int house = 0; house <= 10; house += 5) {
            for (int what = 0; what < 6; what++) {
                String call = "change(" + house + ", " + what + ", ..)";
                Due.due(call, x.change(house, what, most[what]), was[what]);
                Due.due(call + " then of", x.of(house, what), most[what]);
                Due.due(call + " beyond", x.change(house, what, most[what] + 1), Due.BEYOND);
                Due.due(call + " below 0", x.change(house, what, -1), Due.BEYOND);
                Due.due(call + " stays", x.of(house, what), most[what]);
                Due.due(call + " to 0", x.change(house, what, 0), most[what]);
            }
        }
        Due.due("change leaves others", x.of(1, 2), 2);
        Due.due("change(-1, 0, 0)", x.change(-1, 0, 0), Due.BEYOND);
        Due.due("change(11, 0, 0)", x.change(11, 0, 0), Due.BEYOND);
        Due.due("change(0, -1, 0)", x.change(0, -1, 0), Due.BEYOND);
        Due.due("change(0, 6, 0)", x.change(0, 6, 0), Due.BEYOND);
        Due.due("change(max, max, max)",
                x.change(Integer.MAX_VALUE, Integer.MAX_VALUE, Integer.MAX_VALUE), Due.BEYOND);
        Due.due("change: status(0)", x.status(0), 3 * 12 + 5);
    }

    /** With NEED 7 and HOLDS 25: rows of KINDS, columns USES in HOURS 0 to 5, KEEPS, LOSES. */
    private static void usesKeepsLoses() {
        int[][] due = {
            {7, 7, 7, 7, 7, 7, 25, 0},
            {7, 0, 7, 0, 7, 0, 25, 0},
            {14, 14, 14, 14, 14, 14, 12, 1},
            {11, 11, 11, 11, 11, 11, 19, 1},
            {0, 0, 0, 0, 0, 11, 19, 1},
            {7, 7, 7, 7, 7, 7, 25, 5},
            {8, 1, 8, 1, 8, 1, 35, 0},
        };
        GutterRights x = new GutterRights();
        for (int kind = 0; kind < 7; kind++) {
            x.change(kind, 0, kind);
            x.change(kind, 2, 7);
            x.change(kind, 3, 25);
        }
        for (int hour = 0; hour < 12; hour++) {
            for (int kind = 0; kind < 7; kind++) {
                String which = " of kind " + kind + " in hour " + hour;
                Due.due("USES" + which, x.of(kind, 6), due[kind][hour % 6]);
                Due.due("KEEPS" + which, x.of(kind, 7), due[kind][6]);
                Due.due("LOSES" + which, x.of(kind, 8), due[kind][7]);
            }
            x.go(1);
        }
        x = new GutterRights();
        x.change(0, 0, 3);
        x.change(0, 2, 1);
        Due.due("USES of a brewery with need 1", x.of(0, 6), 0);
        x.change(0, 2, 2);
        Due.due("USES of a brewery with need 2", x.of(0, 6), 1);
        x.change(0, 2, 0);
        Due.due("USES of a brewery with need 0", x.of(0, 6), 0);
        x.change(0, 0, 6);
        Due.due("USES of an invalid with need 0", x.of(0, 6), 1);
    }

    private static void leads() {
        GutterRights x = new GutterRights();
        for (int house = 0; house < 10; house++) {
            Due.due("of(" + house + ", 9)", x.of(house, 9), house + 1);
        }
        Due.due("of(10, 9)", x.of(10, 9), -1);
        x.spouts(2047);
        for (int house = 0; house < 9; house++) {
            Due.due("turned: of(" + house + ", 9)", x.of(house, 9), house + 2);
        }
        Due.due("turned: of(9, 9)", x.of(9, 9), -1);
        Due.due("turned: of(10, 9)", x.of(10, 9), -1);
        Due.due("of(-1, 0)", x.of(-1, 0), Due.BEYOND);
        Due.due("of(11, 0)", x.of(11, 0), Due.BEYOND);
        Due.due("of(0, -1)", x.of(0, -1), Due.BEYOND);
        Due.due("of(0, 10)", x.of(0, 10), Due.BEYOND);
        Due.due("of: status(0)", x.status(0), 4);
    }

    private static void rain() {
        GutterRights x = new GutterRights();
        Due.due("rain(999)", x.rain(999), 20);
        Due.due("rain(1000)", x.rain(1000), Due.BEYOND);
        Due.due("rain(-1)", x.rain(-1), Due.BEYOND);
        Due.due("now(6)", x.now(6), 999);
        Due.due("rain(0)", x.rain(0), 999);
        Due.due("rain(5)", x.rain(5), 0);
    }

    private static void spouts() {
        GutterRights x = new GutterRights();
        Due.due("spouts(1029)", x.spouts(1029), 0);
        Due.due("of(0, 4)", x.of(0, 4), 1);
        Due.due("of(1, 4)", x.of(1, 4), 0);
        Due.due("of(2, 4)", x.of(2, 4), 1);
        Due.due("of(10, 4)", x.of(10, 4), 1);
        Due.due("spouts(2048)", x.spouts(2048), Due.BEYOND);
        Due.due("spouts(-1)", x.spouts(-1), Due.BEYOND);
        Due.due("spouts(2)", x.spouts(2), 1029);
        Due.due("of(0, 4) then", x.of(0, 4), 0);
        Due.due("spouts(2047)", x.spouts(2047), 2);
        Due.due("spouts(0)", x.spouts(0), 2047);
    }

    private static void pour() {
        GutterRights x = new GutterRights();
        Due.due("pour(3, 9998)", x.pour(3, 9998), 9998);
        Due.due("pour(3, 1)", x.pour(3, 1), 9999);
        Due.due("lost none", x.now(3), 0);
        Due.due("pour(3, 0)", x.pour(3, 0), 9999);
        Due.due("pour(3, 7)", x.pour(3, 7), 9999);
        Due.due("lost 7", x.now(3), 7);
        Due.due("pour(10, 5)", x.pour(10, 5), 5);
        Due.due("pour(0, 5)", x.pour(0, 5), 5);
        Due.due("pour(0, 10000)", x.pour(0, 10000), Due.BEYOND);
        Due.due("pour(0, -1)", x.pour(0, -1), Due.BEYOND);
        Due.due("pour(11, 1)", x.pour(11, 1), Due.BEYOND);
        Due.due("pour(-1, 1)", x.pour(-1, 1), Due.BEYOND);
        Due.due("water of all", x.now(1), 10009);
        for (int i = 0; i < 99; i++) {
            x.pour(3, 9999);
        }
        Due.due("lost", x.now(3), 7 + 99 * 9999);
        for (int i = 0; i < 3; i++) {
            x.pour(3, 9999);
        }
        Due.due("lost stays at most", x.now(3), 999999);
    }
}
