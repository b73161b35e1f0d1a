/** Promises 39 to 43: image, undo, tear, count, status. */
public final class ImagesTest {

    public static void main(String[] args) {
        imageAndUndo();
        allIsKept();
        hourOfUndo();
        imageChangesNothing();
        keptLatest();
        whatIsNotKept();
        tear();
        count();
        status();
        Due.end();
    }

    private static void changeAll(GutterRights x, int by) {
        Due.text(x, "dyer 1 has 3" + by + " needs 4" + by + " holds 5" + by + " right;rain 6" + by);
        x.hold(by, 3);
        x.seed(100 + by);
        x.change(10, 5, 50 + by);
        x.pour(10, 9999);
        x.pour(10, by);
        x.showers(3);
        x.go(2 + by);
    }

    private static void imageAndUndo() {
        GutterRights x = new GutterRights();
        String first = Due.stateOf(x);
        Due.due("undo, nothing kept", x.undo(), Due.NONE);
        Due.due("image", x.image(), 1);
        changeAll(x, 1);
        Due.due("undo", x.undo(), 0);
        Due.due("as at first", Due.stateOf(x), first);
        changeAll(x, 2);
        Due.due("undo again", x.undo(), 0);
        Due.due("as at first again", Due.stateOf(x), first);
    }

    /** "All but THE TAPE and SHEETS is kept": each number of each HOUSE, each SPOT, and all others. */
    private static void allIsKept() {
        int[] kept = {3, 123, 45, 67, 1, 89};
        GutterRights x = new GutterRights();
        for (int house = 0; house < 11; house++) {
            for (int what = 0; what < 6; what++) {
                x.change(house, what, kept[what]);
            }
        }
        for (int spot = 0; spot < 10; spot++) {
            x.hold(spot, spot);
        }
        x.rain(321);
        x.seed(-9);
        x.image();
        for (int house = 0; house < 11; house++) {
            for (int what = 0; what < 6; what++) {
                x.change(house, what, 0);
            }
        }
        for (int spot = 0; spot < 10; spot++) {
            x.hold(spot, 10 - spot);
        }
        x.rain(4);
        x.seed(5);
        x.pour(10, 9999);
        x.pour(10, 5);
        x.go(3);
        Due.due("undo", x.undo(), 0);
        for (int house = 0; house < 11; house++) {
            for (int what = 0; what < 6; what++) {
                Due.due("of(" + house + ", " + what + ")", x.of(house, what), kept[what]);
            }
        }
        for (int spot = 0; spot < 10; spot++) {
            Due.due("as(" + spot + ", 0)", x.as(spot, 0), spot);
        }
        Due.due("HOUR", x.now(0), 0);
        Due.due("THE ALLEY", x.now(2), 0);
        Due.due("LOST", x.now(3), 0);
        Due.due("RAIN", x.now(6), 321);
        Due.due("z", x.count(6), -9);
    }

    /** undo() answers HOUR as it was kept, whatever was looked at ahead. */
    private static void hourOfUndo() {
        GutterRights x = new GutterRights();
        x.go(5);
        x.image();
        x.go(7);
        x.ahead(0, 1, 3);
        Due.due("undo", x.undo(), 5);
        Due.due("now(0)", x.now(0), 5);
        x.alley(30);
        Due.due("undo behind alley", x.undo(), 5);
        x.image();
        x.tear();
        x.go(1);
        Due.due("undo behind tear", x.undo(), Due.NONE);
        Due.due("now(0) then", x.now(0), 6);
    }

    private static void imageChangesNothing() {
        GutterRights x = new GutterRights();
        changeAll(x, 1);
        String was = Due.stateOf(x);
        Due.due("image", x.image(), 1);
        Due.due("image changes nothing", Due.stateOf(x), was);
        Due.due("tear", x.tear(), 1);
        Due.due("tear changes nothing", Due.stateOf(x), was);
    }

    /** "what was kept latest (which stays)". */
    private static void keptLatest() {
        GutterRights x = new GutterRights();
        x.image();
        changeAll(x, 1);
        String second = Due.stateOf(x);
        Due.due("image of it", x.image(), 1);
        changeAll(x, 2);
        Due.due("undo to the latest", x.undo(), 6);
        Due.due("as kept latest", Due.stateOf(x), second);
        x.spouts(2047);
        x.hold(1, -1);
        Due.due("undo to the latest, which stays", x.undo(), 6);
        Due.due("as kept latest, which stays", Due.stateOf(x), second);
    }

    private static void whatIsNotKept() {
        GutterRights x = new GutterRights();
        Due.sheet(x, 0, 8, 5, 6);
        Due.sheet(x, 1, 16, 7);
        x.feed(' ', 1);
        x.image();
        Due.feed(x, "rain 3");
        Due.sheet(x, 0, 16, 8, 9, 10);
        x.sheet(1, 0, 0);
        x.now(-1);
        x.undo();
        Due.due("sheet 0 stays", Due.numbersOf(x, 0), "[16:8 16:9 16:10 ]");
        Due.due("sheet 1 stays missing", x.load(1), Due.MISSING);
        Due.due("the tape stays", x.count(5), 7);
        Due.due("and can be read", x.text(), 1);
        Due.due("rain", x.now(6), 3);
        GutterRights y = new GutterRights();
        y.image();
        y.now(-1);
        y.undo();
        Due.due("undo takes no finding back", y.status(-1), 1);
        Due.due("undo takes no BEYOND back", y.status(0), 1);
    }

    private static void tear() {
        GutterRights x = new GutterRights();
        Due.due("tear nothing", x.tear(), 0);
        x.image();
        x.rain(5);
        x.image();
        Due.due("tear", x.tear(), 1);
        Due.due("tear again", x.tear(), 0);
        Due.due("undo", x.undo(), Due.NONE);
        Due.due("rain stays", x.now(6), 5);
        Due.due("image", x.image(), 1);
        Due.due("undo then", x.undo(), 0);
    }

    private static void count() {
        GutterRights x = new GutterRights();
        x.change(3, 0, 4);
        x.change(4, 0, 6);
        x.change(4, 1, 17);
        x.change(10, 1, 100);
        x.change(5, 5, 1);
        x.change(6, 2, 0);
        x.hold(0, 0);
        x.hold(9, 10);
        x.seed(-7);
        x.feed(0, 3);
        Due.due("count(0)", x.count(0), 0);
        Due.due("count(1)", x.count(1), 2);
        Due.due("count(2)", x.count(2), 1);
        Due.due("count(3)", x.count(3), 117);
        Due.due("count(4)", x.count(4), 0);
        Due.due("count(5)", x.count(5), 3);
        Due.due("count(6)", x.count(6), -7);
        Due.due("count(7)", x.count(7), 2);
        for (int house = 0; house < 11; house++) {
            GutterRights y = new GutterRights();
            y.change(house, 0, 1);
            y.change(house, 1, 3);
            y.change(house, 5, 1);
            Due.due("count(1) with " + house, y.count(1), 1);
            Due.due("count(2) with " + house, y.count(2), 1);
            Due.due("count(3) with " + house, y.count(3), 3);
            Due.due("now(4) with " + house, y.now(4), 1 << house);
        }
        x.go(1);
        Due.due("count(0) then", x.count(0), 1);
        // HOUSES 1, 2, 5, 7, 8 and 9 are DRY: 3 is a duel, 6 needs nothing.
        Due.due("count(2) then", x.count(2), 6);
        // 10 and 8 of RAIN, 14 in the invalid, 10 in HOUSE 10.
        Due.due("count(3) then", x.count(3), 10 + 8 + 14 + 10);
        Due.due("count(4) then", x.count(4), 88);
        Due.due("count(-1)", x.count(-1), Due.BEYOND);
        Due.due("count(8)", x.count(8), Due.BEYOND);
        Due.due("status(0)", x.status(0), 2);
    }

    private static void status() {
        GutterRights x = new GutterRights();
        Due.due("status(7)", x.status(7), Due.BEYOND);
        Due.due("status(0), counted from then on", x.status(0), 1);
        Due.due("status(-2)", x.status(-2), Due.BEYOND);
        Due.due("status(min)", x.status(Integer.MIN_VALUE), Due.BEYOND);
        Due.due("status(-1)", x.status(-1), 3);
        for (int i = 0; i < 31; i++) {
            x.feed(0, 4);
        }
        Due.due("FULL", x.status(1), 1);
        x.hold(0, 0);
        x.as(0, 1);
        x.as(0, 2);
        Due.due("KIND", x.status(2), 2);
        x.undo();
        x.when(0, 9999);
        x.turn(2047, 5);
        Due.due("NONE", x.status(3), 3);
        Due.due("STATE", x.status(4), 0);
        x.as(1, 0);
        x.load(0);
        x.judge(0);
        x.turned(0, 0);
        Due.due("MISSING", x.status(5), 4);
        x.sheet(0, 8, -1);
        Due.due("SIZE", x.status(6), 1);
        Due.due("BEYOND", x.status(0), 3);
        x.odds(-1, 0, 0);
        Due.due("BEYOND of odds()", x.status(0), 4);
        Due.due("all", x.status(-1), 4 + 1 + 2 + 3 + 4 + 1);
    }
}
