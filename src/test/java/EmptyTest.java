/** What calls answer where there is nothing: no HOURS, an empty set, an empty TAPE, a sheet of no numbers. */
public final class EmptyTest {

    public static void main(String[] args) {
        noHoursAhead();
        noHoursForHowMuch();
        noHoursForSpouts();
        noDraws();
        emptySets();
        emptyTape();
        blanksAlone();
        noNumbers();
        oneNumber();
        noWater();
        emptySpots();
        nothingKept();
        Due.end();
    }

    /** Promises 9 to 12: behind 0 HOURS all is as it is now. */
    private static void noHoursAhead() {
        GutterRights x = Bounds.busy();
        for (int house = 0; house < 11; house++) {
            Due.due("ahead(" + house + ", 1, 0)", x.ahead(house, 1, 0), x.of(house, 1));
            Due.due("ahead(" + house + ", 5, 0)", x.ahead(house, 5, 0), x.of(house, 5));
            Due.due("when(" + house + ", as it is)", x.when(house, x.of(house, 1)), 0);
            Due.due("when(" + house + ", 0)", x.when(house, 0), 0);
        }
        x.change(10, 1, 500);
        x.go(1);
        Due.due("alley(0)", x.alley(0), x.now(2));
        Due.due("alley(0) isn't 0", x.alley(0) > 0 ? 1 : 0, 1);
        Due.due("dry(0)", x.dry(0), 0);
    }

    /** Promises 15 to 19: in none of 0 HOURS a HOUSE is DRY, with whatever it has. */
    private static void noHoursForHowMuch() {
        GutterRights x = Bounds.busy();
        x.rain(0);
        for (int house = 0; house < 11; house++) {
            x.change(house, 1, 0);
            x.change(house, 2, 99);
            Due.due("rainFor(" + house + ", 0)", x.rainFor(house, 0), 0);
            Due.due("holdsFor(" + house + ", 0)", x.holdsFor(house, 0), 0);
            Due.due("needFor(" + house + ", 0)", x.needFor(house, 0), 99);
            Due.due("kindsFor(" + house + ", 0)", x.kindsFor(house, 0), 127);
            Due.due("kindFor(" + house + ", 0)", x.kindFor(house, 0), 0);
        }
    }

    /** Promises 20 to 23: nothing must be turned, the least HOUSE counts, nothing comes to THE ALLEY. */
    private static void noHoursForSpouts() {
        GutterRights x = Bounds.busy();
        Due.due("turn(2047, 0)", x.turn(2047, 0), 0);
        Due.due("turn(0, 0)", x.turn(0, 0), 0);
        Due.due("best(0)", x.best(0), 0);
        for (int house = 0; house < 11; house++) {
            Due.due("love(" + house + ", 0)", x.love(house, 0), 0);
            Due.due("burst(" + house + ", 9999, 0)", x.burst(house, 9999, 0), 0);
        }
    }

    /** Promise 27: RAIN is v or more on all of no draws, even if v is 100. */
    private static void noDraws() {
        GutterRights x = new GutterRights();
        for (int v = 0; v <= 100; v++) {
            Due.due("odds(" + v + ", 0, 0)", x.odds(v, 0, 0), 1);
            Due.due("odds(" + v + ", 0, 1)", x.odds(v, 0, 1), 1);
        }
    }

    private static void emptySets() {
        GutterRights x = new GutterRights();
        Due.due("now(4), none was dry", x.now(4), 0);
        Due.due("now(5), none is turned", x.now(5), 0);
        Due.due("spouts(0)", x.spouts(0), 0);
        x.rain(0);
        for (int n = 0; n <= 12; n++) {
            Due.due("turn(0, " + n + ")", x.turn(0, n), 0);
        }
        Due.due("kindsFor, as none", x.kindsFor(5, 6), 0);
        Due.sheet(x, 0, 8, 9);
        Due.due("turned, by none", x.turned(0, 3), 0);
        Due.due("kinds, as none", x.kinds(0, 3), 0);
        for (int house = 0; house < 11; house++) {
            x.change(house, 2, 0);
        }
        Due.due("dry(100), none is dry", x.dry(100), 0);
        Due.due("best(40), none is dry", x.best(40), 0);
        Due.due("turn(2047, 12), none is dry", x.turn(2047, 12), 0);
        x.showers(20);
        Due.due("count(2), none was dry", x.count(2), 0);
        Due.due("count(1), none of another kind", x.count(1), 0);
    }

    /** Promises 30 and 31: "or how many bytes there are if it ends too early", here 0. */
    private static void emptyTape() {
        GutterRights x = new GutterRights();
        Due.due("wipe", x.wipe(), 0);
        Due.due("text", x.text(), -1);
        Due.due("text again", x.text(), -1);
        Due.due("no finding", x.status(-1), 0);
        Due.feed(x, "rain 4");
        Due.due("wipe of six", x.wipe(), 6);
        Due.due("wipe again", x.wipe(), 0);
        Due.due("text behind wipe", x.text(), -1);
        Due.due("rain stays", x.now(6), 20);
        Due.due("a text", Due.text(x, "rain 4"), 1);
        Due.due("text behind a text", x.text(), -1);
        Due.due("a text with a fault", Due.text(x, "rain;"), -5);
        Due.due("text behind a fault", x.text(), -1);
        Due.due("tape", x.count(5), 0);
    }

    private static void blanksAlone() {
        GutterRights x = new GutterRights();
        Due.due("a blank", Due.text(x, " "), -2);
        for (int i = 0; i < 30; i++) {
            x.feed(0x20202020, 4);
        }
        Due.due("120 blanks", x.text(), -121);
        Due.due("no finding", x.status(-1), 0);
    }

    /** Promises 24, 25, 35 to 38, of a sheet of no numbers, which isn't MISSING. */
    private static void noNumbers() {
        for (int bits = 8; bits <= 32; bits *= 2) {
            GutterRights x = Bounds.busy();
            Due.due("sheet", x.sheet(0, bits, 0), 0);
            x.sheet(1, bits, 0);
            for (int house = 0; house < 11; house++) {
                Due.due("turned", x.turned(0, house), 2047);
                Due.due("kinds", x.kinds(0, house), 127);
            }
            Due.due("load", x.load(0), 0);
            Due.due("need stays", x.of(0, 2), 2);
            Due.due("judge", x.judge(0), 0);
            Due.due("copy of none", x.copy(0, 0, 1, 0, 0), 0);
            Due.due("copy of none to itself", x.copy(0, 0, 0, 0, 0), 0);
            Due.due("copy of one", x.copy(0, 0, 1, 0, 1), Due.BEYOND);
            Due.due("write", x.write(0, 0, 5), Due.BEYOND);
            Due.due("missing then", x.sheet(0, 0, 0), 0);
            Due.due("judge of missing", x.judge(0), Due.MISSING);
        }
    }

    /** A sheet of one number tells of now alone; its HOUSE leads nowhere. */
    private static void oneNumber() {
        GutterRights x = new GutterRights();
        x.change(4, 1, 7);
        Due.sheet(x, 0, 8, 7);
        Due.due("turned, as it is", x.turned(0, 4), 2047);
        Due.due("kinds, as it is", x.kinds(0, 4), 127);
        Due.due("turned, other", x.turned(0, 5), 0);
        Due.due("kinds, other", x.kinds(0, 5), 0);
        Due.due("judge", x.judge(0), 0);
        Due.due("load", x.load(0), 1);
        Due.sheet(x, 0, 8, -1);
        Due.due("turned, any", x.turned(0, 4), 2047);
        Due.due("kinds, any", x.kinds(0, 4), 127);
        Due.due("judge, none", x.judge(0), 1);
        Due.due("load, none", x.load(0), 0);
    }

    private static void noWater() {
        GutterRights x = Bounds.busy();
        int lost = x.now(3);
        for (int house = 0; house < 11; house++) {
            int water = x.of(house, 1);
            Due.due("pour(" + house + ", 0)", x.pour(house, 0), water);
            Due.due("burst(" + house + ", 0, 40)", x.burst(house, 0, 40), 0);
        }
        Due.due("none is lost", x.now(3), lost);
        x = new GutterRights();
        x.rain(0);
        Due.due("nothing settles at once", x.settles(), 0);
        Due.due("nothing comes", x.alley(100), 0);
        Due.due("all are dry", x.dry(1), 2047);
    }

    private static void emptySpots() {
        GutterRights x = new GutterRights();
        Due.due("count(7)", x.count(7), 0);
        for (int spot = 0; spot < 10; spot++) {
            Due.due("as(" + spot + ", 0)", x.as(spot, 0), Due.MISSING);
            Due.due("hold(" + spot + ", -1)", x.hold(spot, -1), 1);
            Due.due("as(" + spot + ", 0) then", x.as(spot, 0), Due.MISSING);
        }
        Due.due("count(7) then", x.count(7), 0);
    }

    private static void nothingKept() {
        GutterRights x = new GutterRights();
        Due.due("tear", x.tear(), 0);
        Due.due("undo", x.undo(), Due.NONE);
        x.rain(3);
        Due.due("undo keeps nothing", x.undo(), Due.NONE);
        Due.due("rain stays", x.now(6), 3);
        Due.due("tear again", x.tear(), 0);
        Due.due("status(3)", x.status(3), 2);
    }
}
