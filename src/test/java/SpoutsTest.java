/** Promises 20 to 25: turn, best, love, burst, turned, kinds. */
public final class SpoutsTest {

    public static void main(String[] args) {
        turn();
        turnFewest();
        best();
        love();
        burst();
        turned();
        kinds();
        Due.end();
    }

    /** No RAIN; HOUSE 3 has 100, of which it lets 88 go in the first HOUR; HOUSE 5 has 2. */
    private static GutterRights quarter() {
        GutterRights x = new GutterRights();
        x.rain(0);
        x.change(3, 1, 100);
        x.change(5, 1, 2);
        return x;
    }

    private static void turn() {
        GutterRights x = quarter();
        Due.due("turn(0, 12)", x.turn(0, 12), 0);
        Due.due("turn({5}, 0)", x.turn(1 << 5, 0), 0);
        Due.due("turn({5}, 1)", x.turn(1 << 5, 1), 0);
        Due.due("turn({5}, 2)", x.turn(1 << 5, 2), 1 << 3);
        Due.due("turn({3, 5}, 6)", x.turn(1 << 3 | 1 << 5, 6), 1 << 3);
        Due.due("turn({3, 5}, 7)", x.turn(1 << 3 | 1 << 5, 7), Due.NONE);
        Due.due("turn({4, 5}, 2)", x.turn(1 << 4 | 1 << 5, 2), Due.NONE);
        x.change(4, 1, 2);
        Due.due("turn({4, 5}, 2), still", x.turn(1 << 4 | 1 << 5, 2), Due.NONE);
        x.change(2, 1, 100);
        Due.due("turn({4, 5}, 2) with two", x.turn(1 << 4 | 1 << 5, 2), 1 << 2 | 1 << 3);
        Due.due("turn(all, 1)", x.turn(2047, 1), Due.NONE);
        Due.due("spouts stay", x.now(5), 0);
        Due.due("turn(2048, 0)", x.turn(2048, 0), Due.BEYOND);
        Due.due("turn(-1, 0)", x.turn(-1, 0), Due.BEYOND);
        Due.due("turn(0, 13)", x.turn(0, 13), Due.BEYOND);
        Due.due("turn(0, -1)", x.turn(0, -1), Due.BEYOND);
        Due.due("status(3)", x.status(3), 4);
        x = new GutterRights();
        x.change(10, 1, 2);
        x.change(9, 1, 100);
        x.spouts(1 << 9);
        Due.due("turn({10}, 2) back", x.turn(1 << 10, 2), 1 << 9);
    }

    private static void turnFewest() {
        GutterRights x = quarter();
        x.change(4, 1, 100);
        x.spouts(1 << 4);
        Due.due("the least of two", x.turn(1 << 5, 2), 1 << 3);
        x.change(3, 1, 0);
        Due.due("turned back", x.turn(1 << 5, 2), 1 << 4);
        // {1, 3} would do too, and is a lesser number than {4}, but these are two.
        x.change(1, 1, 100);
        x.change(5, 1, 4);
        x.change(4, 3, 0);
        Due.due("one before two", x.turn(1 << 5, 3), 1 << 4);
        x.change(4, 1, 0);
        Due.due("two where one won't do", x.turn(1 << 5, 3), 1 << 1 | 1 << 3);
    }

    private static void best() {
        GutterRights x = quarter();
        for (int house = 0; house < 11; house++) {
            x.change(house, 2, house == 5 ? 2 : 0);
        }
        Due.due("best(0)", x.best(0), 0);
        Due.due("best(1)", x.best(1), 0);
        Due.due("best(2)", x.best(2), 3);
        x.spouts(1 << 3);
        Due.due("best(2), best left", x.best(2), 0);
        // HOUSE 0 must be turned or another: with HOUSE 0 in use, the best is one that harms none.
        x.change(0, 1, 100);
        x.change(1, 1, 2);
        x.change(1, 2, 2);
        Due.due("best(2), the least that harms none", x.best(2), 1);
        Due.due("spouts stay", x.now(5), 1 << 3);
        Due.due("best(40), both dry in any case", x.best(40), 0);
        Due.due("best(41)", x.best(41), Due.BEYOND);
        Due.due("best(-1)", x.best(-1), Due.BEYOND);
    }

    private static void love() {
        GutterRights x = quarter();
        Due.due("love(5, 0)", x.love(5, 0), 0);
        Due.due("love(5, 1)", x.love(5, 1), 3);
        Due.due("love(4, 1)", x.love(4, 1), 0);
        Due.due("love(6, 40)", x.love(6, 40), 0);
        x.spouts(1 << 3);
        Due.due("love(4, 1) turned back", x.love(4, 1), 3);
        Due.due("spouts stay", x.now(5), 1 << 3);
        Due.due("love(11, 0)", x.love(11, 0), Due.BEYOND);
        Due.due("love(-1, 0)", x.love(-1, 0), Due.BEYOND);
        Due.due("love(0, 41)", x.love(0, 41), Due.BEYOND);
        Due.due("love(0, -1)", x.love(0, -1), Due.BEYOND);
    }

    private static void burst() {
        GutterRights x = new GutterRights();
        x.rain(0);
        Due.due("burst(10, 50, 0)", x.burst(10, 50, 0), 0);
        Due.due("burst(10, 50, 1)", x.burst(10, 50, 1), 38);
        Due.due("burst(10, 0, 40)", x.burst(10, 0, 40), 0);
        Due.due("burst(9, 50, 1)", x.burst(9, 50, 1), 0);
        Due.due("burst(9, 50, 2)", x.burst(9, 50, 2), 26);
        x.change(10, 1, 100);
        Due.due("burst(10, 50, 1) on 100", x.burst(10, 50, 1), 50);
        x.change(10, 1, 9990);
        Due.due("burst(10, 9999, 1) on 9990", x.burst(10, 9999, 1), 9);
        Due.due("nothing changes", x.of(10, 1) + x.now(3), 9990);
        Due.due("burst(10, 10000, 1)", x.burst(10, 10000, 1), Due.BEYOND);
        Due.due("burst(10, -1, 1)", x.burst(10, -1, 1), Due.BEYOND);
        Due.due("burst(11, 0, 1)", x.burst(11, 0, 1), Due.BEYOND);
        Due.due("burst(-1, 0, 1)", x.burst(-1, 0, 1), Due.BEYOND);
        Due.due("burst(0, 0, 41)", x.burst(0, 0, 41), Due.BEYOND);
        Due.due("burst(0, 0, -1)", x.burst(0, 0, -1), Due.BEYOND);
    }

    private static void turned() {
        GutterRights x = quarter();
        x.change(5, 1, 0);
        Due.due("turned(-1, 5)", x.turned(-1, 5), Due.BEYOND);
        Due.due("turned(4, 5)", x.turned(4, 5), Due.BEYOND);
        Due.due("turned(0, 11), missing", x.turned(0, 11), Due.MISSING);
        Due.sheet(x, 0, 16, 0, 88);
        Due.due("turned(0, 11)", x.turned(0, 11), Due.BEYOND);
        Due.due("turned(0, -1)", x.turned(0, -1), Due.BEYOND);
        Due.due("turned by [0, 88]", x.turned(0, 5), 1 << 3);
        Due.sheet(x, 0, 16, -1, 0);
        Due.due("turned by [any, 0]", x.turned(0, 5), 2047 & ~(1 << 3));
        Due.sheet(x, 0, 16, 1, -1);
        Due.due("turned by [1, any]", x.turned(0, 5), 0);
        Due.sheet(x, 0, 16, -2);
        Due.due("turned by [-2]", x.turned(0, 5), 0);
        Due.sheet(x, 0, 32, 65535);
        Due.due("turned by [65535]", x.turned(0, 5), 0);
        Due.sheet(x, 0, 8, 255, 88, 10);
        Due.due("turned by [255 of 8 bits, 88, 10]", x.turned(0, 5), 1 << 3);
        Due.sheet(x, 0, 8);
        Due.due("turned by []", x.turned(0, 5), 2047);
        Due.due("spouts stay", x.now(5), 0);
    }

    private static void kinds() {
        GutterRights x = quarter();
        Due.due("kinds(-1, 3)", x.kinds(-1, 3), Due.BEYOND);
        Due.due("kinds(4, 3)", x.kinds(4, 3), Due.BEYOND);
        Due.due("kinds(0, 11), missing", x.kinds(0, 11), Due.MISSING);
        Due.sheet(x, 0, 16, 100, 10);
        Due.due("kinds(0, 11)", x.kinds(0, 11), Due.BEYOND);
        Due.due("kinds(0, -1)", x.kinds(0, -1), Due.BEYOND);
        Due.due("kinds by [100, 10]", x.kinds(0, 3), 1 | 1 << 1 | 1 << 5);
        Due.sheet(x, 0, 16, 100, 7);
        Due.due("kinds by [100, 7]", x.kinds(0, 3), 1 << 3 | 1 << 4);
        Due.sheet(x, 0, 16, 100, 5);
        Due.due("kinds by [100, 5]", x.kinds(0, 3), 1 << 2);
        Due.sheet(x, 0, 16, 100, 20);
        Due.due("kinds by [100, 20]", x.kinds(0, 3), 1 << 6);
        Due.sheet(x, 0, 16, 100, 10, 8);
        Due.due("kinds by [100, 10, 8]", x.kinds(0, 3), 1 | 1 << 5);
        Due.sheet(x, 0, 16, -1, -1, 10);
        Due.due("kinds by [any, any, 10]", x.kinds(0, 3), 1 << 1);
        Due.sheet(x, 0, 16, 99, -1);
        Due.due("kinds by [99, any]", x.kinds(0, 3), 0);
        Due.sheet(x, 0, 16);
        Due.due("kinds by []", x.kinds(0, 3), 127);
        Due.due("kind stays", x.of(3, 0), 0);
    }
}
