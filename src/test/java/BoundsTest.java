/**
 * Promises 2 to 43: for each number that a call takes, the last that is allowed at both ends, and the
 * first that isn't: BEYOND, and nothing but status() is changed. What calls answer at their bounds, the
 * tests by promise tell (and AtBoundsTest).
 */
public final class BoundsTest {

    private static final int[] MOST = {6, 9999, 99, 999, 1, 9999};

    public static void main(String[] args) {
        housesAndRain();
        whatOfHouses();
        hours();
        whatWillBe();
        howMuch();
        spouts();
        whatWasSeen();
        showers();
        texts();
        spots();
        sheets();
        copies();
        images();
        Due.end();
    }

    private static void housesAndRain() {
        Bounds.range("change: house", 0, 10, (x, v) -> x.change(v, 1, 5));
        Bounds.range("change: what", 0, 5, (x, v) -> x.change(3, v, 1));
        for (int what = 0; what < 6; what++) {
            int w = what;
            Bounds.range("change: v of what " + w, 0, MOST[w], (x, v) -> x.change(4, w, v));
        }
        Bounds.range("rain", 0, 999, GutterRights::rain);
        Bounds.range("spouts", 0, 2047, GutterRights::spouts);
        Bounds.range("pour: house", 0, 10, (x, v) -> x.pour(v, 5));
        Bounds.range("pour: v", 0, 9999, (x, v) -> x.pour(5, v));
    }

    private static void whatOfHouses() {
        for (int what = 0; what < 10; what++) {
            int w = what;
            Bounds.range("of(.., " + w + "): house", 0, 10, (x, v) -> x.of(v, w));
        }
        for (int house = 0; house < 11; house++) {
            int h = house;
            Bounds.range("of(" + h + ", ..): what", 0, 9, (x, v) -> x.of(h, v));
        }
    }

    private static void hours() {
        Bounds.range("go", 1, 60, GutterRights::go);
        Bounds.range("now", 0, 6, GutterRights::now);
    }

    private static void whatWillBe() {
        Bounds.range("ahead(.., 1, ..): house", 0, 10, (x, v) -> x.ahead(v, 1, 3));
        Bounds.range("ahead(.., 5, ..): house", 0, 10, (x, v) -> x.ahead(v, 5, 3));
        Bounds.range("ahead: what 1", 1, 1, (x, v) -> x.ahead(2, v, 3));
        Bounds.range("ahead: what 5", 5, 5, (x, v) -> x.ahead(2, v, 3));
        Bounds.refused("ahead: what 3", Due.BEYOND, x -> x.ahead(2, 3, 3));
        Bounds.range("ahead(.., 1, ..): n", 0, 100, (x, v) -> x.ahead(2, 1, v));
        Bounds.range("ahead(.., 5, ..): n", 0, 100, (x, v) -> x.ahead(2, 5, v));
        Bounds.range("alley: n", 0, 100, GutterRights::alley);
        Bounds.range("dry: n", 0, 100, GutterRights::dry);
        Bounds.range("when: house", 0, 10, (x, v) -> x.when(v, 5));
        Bounds.range("when: v", 0, 9999, (x, v) -> x.when(2, v));
        Bounds.range("below", 0, 10, GutterRights::below);
    }

    private static void howMuch() {
        Bounds.range("rainFor: house", 0, 10, (x, v) -> x.rainFor(v, 3));
        Bounds.range("rainFor: n", 0, 40, (x, v) -> x.rainFor(4, v));
        Bounds.range("holdsFor: house", 0, 10, (x, v) -> x.holdsFor(v, 3));
        Bounds.range("holdsFor: n", 0, 40, (x, v) -> x.holdsFor(4, v));
        Bounds.range("needFor: house", 0, 10, (x, v) -> x.needFor(v, 3));
        Bounds.range("needFor: n", 0, 40, (x, v) -> x.needFor(4, v));
        Bounds.range("kindsFor: house", 0, 10, (x, v) -> x.kindsFor(v, 3));
        Bounds.range("kindsFor: n", 0, 40, (x, v) -> x.kindsFor(4, v));
        Bounds.range("kindFor: house", 0, 10, (x, v) -> x.kindFor(v, 3));
        Bounds.range("kindFor: n", 0, 40, (x, v) -> x.kindFor(4, v));
    }

    private static void spouts() {
        Bounds.range("turn: houses", 0, 2047, (x, v) -> x.turn(v, 3));
        Bounds.range("turn: n", 0, 12, (x, v) -> x.turn(9, v));
        Bounds.range("best: n", 0, 40, GutterRights::best);
        Bounds.range("love: house", 0, 10, (x, v) -> x.love(v, 3));
        Bounds.range("love: n", 0, 40, (x, v) -> x.love(4, v));
        Bounds.range("burst: house", 0, 10, (x, v) -> x.burst(v, 5, 3));
        Bounds.range("burst: v", 0, 9999, (x, v) -> x.burst(5, v, 3));
        Bounds.range("burst: n", 0, 40, (x, v) -> x.burst(5, 5, v));
    }

    private static void whatWasSeen() {
        Bounds.range("turned: s", 0, 3, (x, v) -> x.turned(v, 3));
        Bounds.range("turned: house", 0, 10, (x, v) -> x.turned(0, v));
        Bounds.range("kinds: s", 0, 3, (x, v) -> x.kinds(v, 3));
        Bounds.range("kinds: house", 0, 10, (x, v) -> x.kinds(0, v));
    }

    private static void showers() {
        Bounds.range("showers", 1, 20, GutterRights::showers);
        Bounds.range("odds: v, above", 0, 100, (x, v) -> x.odds(v, 3, 0));
        Bounds.range("odds: v, below", 0, 100, (x, v) -> x.odds(v, 3, 1));
        Bounds.range("odds: n, above", 0, 9, (x, v) -> x.odds(37, v, 0));
        Bounds.range("odds: n, below", 0, 9, (x, v) -> x.odds(37, v, 1));
        Bounds.range("odds: what", 0, 1, (x, v) -> x.odds(37, 3, v));
    }

    private static void texts() {
        Bounds.range("feed: n", 1, 4, (x, v) -> x.feed('1', v));
    }

    private static void spots() {
        Bounds.range("hold: spot", 0, 9, (x, v) -> x.hold(v, 3));
        Bounds.range("hold: spot, nothing", 0, 9, (x, v) -> x.hold(v, -1));
        Bounds.range("hold: house", -1, 10, (x, v) -> x.hold(0, v));
        Bounds.range("as: spot", 0, 9, (x, v) -> x.as(v, 0));
        Bounds.range("as: kind", 0, 6, (x, v) -> x.as(0, v));
        Bounds.range("as: kind, of nothing", 0, 6, (x, v) -> x.as(9, v));
    }

    private static void sheets() {
        int[] bits = {0, 8, 16, 32};
        for (int b : bits) {
            Bounds.range("sheet of " + b + " bits: s", 0, 3, (x, v) -> x.sheet(v, b, 3));
            Bounds.range("sheet of bits " + b, b, b, (x, v) -> x.sheet(0, v, 3));
            Bounds.range("sheet of " + b + " bits: n", 0, 40, Due.SIZE, (x, v) -> x.sheet(0, b, v));
            Bounds.range("missing sheet of " + b + " bits: n", 0, 40, Due.SIZE, (x, v) -> x.sheet(3, b, v));
        }
        Bounds.refused("sheet of 24 bits", Due.BEYOND, x -> x.sheet(0, 24, 3));
        Bounds.refused("sheet of 64 bits", Due.BEYOND, x -> x.sheet(0, 64, 3));
        Bounds.range("write: s", 0, 3, (x, v) -> x.write(v, 0, 5));
        Bounds.range("write: i", 0, 2, (x, v) -> x.write(0, v, 5));
        Bounds.range("write: i of four", 0, 3, (x, v) -> x.write(1, v, 5));
        Bounds.refused("write: i of none", Due.BEYOND, x -> x.write(2, 0, 5));
        Bounds.range("load", 0, 3, GutterRights::load);
        Bounds.range("judge", 0, 3, GutterRights::judge);
    }

    /** Sheet 1 has four numbers, and sheet 0 three; sheet 2 has none. */
    private static void copies() {
        Bounds.range("copy: s", 0, 3, (x, v) -> x.copy(v, 0, 0, 0, 1));
        Bounds.range("copy: t", 0, 3, (x, v) -> x.copy(0, 0, v, 0, 1));
        Bounds.range("copy of one: from", 0, 3, (x, v) -> x.copy(1, v, 1, 0, 1));
        Bounds.range("copy of none: from", 0, 4, (x, v) -> x.copy(1, v, 1, 0, 0));
        Bounds.range("copy of two: from", 0, 2, (x, v) -> x.copy(1, v, 1, 0, 2));
        Bounds.range("copy of four: from", 0, 0, (x, v) -> x.copy(1, v, 1, 0, 4));
        Bounds.range("copy of one: to", 0, 3, (x, v) -> x.copy(1, 0, 1, v, 1));
        Bounds.range("copy of none: to", 0, 4, (x, v) -> x.copy(1, 0, 1, v, 0));
        Bounds.range("copy of two: to", 0, 2, (x, v) -> x.copy(1, 0, 1, v, 2));
        Bounds.range("copy of four: to", 0, 0, (x, v) -> x.copy(1, 0, 1, v, 4));
        Bounds.range("copy from 0 to 0: n", 0, 4, (x, v) -> x.copy(1, 0, 1, 0, v));
        Bounds.range("copy from 1: n", 0, 3, (x, v) -> x.copy(1, 1, 1, 0, v));
        Bounds.range("copy to 1: n", 0, 3, (x, v) -> x.copy(1, 0, 1, 1, v));
        Bounds.range("copy from the end: n", 0, 0, (x, v) -> x.copy(1, 4, 1, 0, v));
        Bounds.range("copy to the end: n", 0, 0, (x, v) -> x.copy(1, 0, 1, 4, v));
        Bounds.range("copy of no numbers: n", 0, 0, (x, v) -> x.copy(2, 0, 2, 0, v));
        Bounds.range("copy of no numbers: from", 0, 0, (x, v) -> x.copy(2, v, 2, 0, 0));
        Bounds.range("copy of no numbers: to", 0, 0, (x, v) -> x.copy(2, 0, 2, v, 0));
        Bounds.refused("copy, n and from at most", Due.BEYOND, x -> x.copy(1, max(), 1, 0, max()));
        Bounds.refused("copy, n and to at most", Due.BEYOND, x -> x.copy(1, 0, 1, max(), max()));
        Bounds.refused("copy, all at most", Due.BEYOND, x -> x.copy(1, max(), 1, max(), max()));
    }

    private static int max() {
        return Integer.MAX_VALUE;
    }

    private static void images() {
        Bounds.range("count", 0, 7, GutterRights::count);
        Bounds.range("status", -1, 6, GutterRights::status);
    }
}
