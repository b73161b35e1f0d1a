/** What calls answer at their bounds: the last HOUR that counts, and the first that doesn't. */
public final class AtBoundsTest {

    public static void main(String[] args) {
        ahead();
        alley();
        dry();
        when();
        settles();
        rainFor();
        holdsFor();
        needFor();
        kindsFor();
        kindFor();
        turn();
        turnOfMany();
        best();
        bestOfTheLast();
        bestOfTheDriest();
        love();
        loveOfTheLast();
        burst();
        go();
        showers();
        odds();
        Due.end();
    }

    /** RAIN 1; HOUSE 0 HOLDS so much, the others 0; there are no NEEDS. */
    private static GutterRights chain(int holds) {
        GutterRights x = new GutterRights();
        x.rain(1);
        for (int house = 0; house < 11; house++) {
            x.change(house, 2, 0);
            x.change(house, 3, house == 0 ? holds : 0);
        }
        return x;
    }

    /** HOUSE 3 has so much WATER, keeps it all, uses so much in each HOUR; none comes. */
    private static GutterRights store(int water, int need) {
        GutterRights x = chain(0);
        x.rain(0);
        x.change(3, 1, water);
        x.change(3, 2, need);
        x.change(3, 3, 999);
        return x;
    }

    /** Promise 9: "behind n (0 to 100) HOURS". */
    private static void ahead() {
        GutterRights x = chain(999);
        for (int n = 0; n <= 100; n++) {
            Due.due("ahead(0, 1, " + n + ")", x.ahead(0, 1, n), n);
        }
        x.change(5, 2, 1);
        x.change(5, 5, 7);
        for (int n = 0; n <= 100; n++) {
            Due.due("ahead(5, 5, " + n + ")", x.ahead(5, 5, n), 7 + n);
        }
        Due.due("nothing changes", x.now(0), 0);
    }

    /** Promise 10: in the 90th HOUR HOUSE 0 lets go 1, which comes to THE ALLEY in the 100th. */
    private static void alley() {
        GutterRights x = chain(89);
        Due.due("alley(99)", x.alley(99), 0);
        Due.due("alley(100)", x.alley(100), 1);
        x = chain(90);
        Due.due("alley(100), one HOUR later", x.alley(100), 0);
    }

    /** Promise 11. */
    private static void dry() {
        GutterRights x = store(899, 9);
        Due.due("dry(99)", x.dry(99), 0);
        Due.due("dry(100)", x.dry(100), 1 << 3);
        x = store(900, 9);
        Due.due("dry(100), one HOUR later", x.dry(100), 0);
        for (int house = 0; house < 11; house++) {
            x = chain(0);
            x.change(house, 2, 2);
            Due.due("dry(1) of " + house, x.dry(1), 1 << house);
        }
    }

    /** Promise 12: "Behind how many HOURS (0 to 100, the fewest)". */
    private static void when() {
        GutterRights x = chain(999);
        for (int v = 0; v <= 100; v++) {
            Due.due("when(0, " + v + ")", x.when(0, v), v);
        }
        Due.due("when(0, 101)", x.when(0, 101), Due.NONE);
        x.change(0, 1, 9);
        Due.due("when(0, 9)", x.when(0, 9), 0);
        Due.due("when(0, 10)", x.when(0, 10), 1);
        Due.due("when(0, 109)", x.when(0, 109), 100);
        Due.due("when(0, 110)", x.when(0, 110), Due.NONE);
    }

    /** Promise 13: HOUSE 0 is full behind 90 HOURS; then 1 comes to each HOUSE, to the last in the 100th. */
    private static void settles() {
        GutterRights x = chain(90);
        Due.due("settles", x.settles(), 100);
        x = chain(91);
        Due.due("settles one HOUR later", x.settles(), Due.NONE);
        x = chain(89);
        Due.due("settles one HOUR earlier", x.settles(), 99);
        x = chain(0);
        Due.due("settles behind ten", x.settles(), 10);
        x.go(9);
        Due.due("settles behind one", x.settles(), 1);
        x.go(1);
        Due.due("settled", x.settles(), 0);
        x.go(60);
        Due.due("settled still", x.settles(), 0);
    }

    /** Promise 15: WATER that is just enough for 40 HOURS, and 1 less. */
    private static void rainFor() {
        GutterRights x = chain(999);
        x.change(0, 2, 10);
        x.change(0, 1, 400);
        Due.due("rainFor(0, 40)", x.rainFor(0, 40), 0);
        x.change(0, 1, 399);
        Due.due("rainFor(0, 39)", x.rainFor(0, 39), 0);
        Due.due("rainFor(0, 40), 1 short", x.rainFor(0, 40), 1);
        x.change(0, 1, 360);
        Due.due("rainFor(0, 40), 40 short", x.rainFor(0, 40), 1);
        x.change(0, 1, 359);
        Due.due("rainFor(0, 40), 41 short", x.rainFor(0, 40), 2);
        // HOUSE 1 is dry in the first HOUR, whatever falls.
        x.change(1, 2, 1);
        Due.due("rainFor(1, 1)", x.rainFor(1, 1), Due.NONE);
        // In the second HOUR it has what is above 900 and comes through HOUSE 0.
        x = chain(900);
        x.change(1, 1, 99);
        x.change(1, 2, 99);
        Due.due("rainFor(1, 2)", x.rainFor(1, 2), 999);
        x.change(0, 3, 901);
        Due.due("rainFor(1, 2), 1000", x.rainFor(1, 2), Due.NONE);
        x.change(0, 3, 899);
        Due.due("rainFor(1, 2), 998", x.rainFor(1, 2), 998);
    }

    /** Promise 16: "The least HOLDS of a HOUSE (0 to 200)". */
    private static void holdsFor() {
        GutterRights x = store(9999, 5);
        Due.due("holdsFor(3, 39)", x.holdsFor(3, 39), 190);
        Due.due("holdsFor(3, 40)", x.holdsFor(3, 40), 195);
        x.change(3, 2, 50);
        Due.due("holdsFor(3, 5): 200", x.holdsFor(3, 5), 200);
        x.change(3, 2, 67);
        Due.due("holdsFor(3, 4): 201", x.holdsFor(3, 4), Due.NONE);
        x.change(3, 2, 0);
        Due.due("holdsFor(3, 40): 0", x.holdsFor(3, 40), 0);
        Due.due("HOLDS stay", x.of(3, 3), 999);
    }

    /** Promise 17: "The greatest NEED". */
    private static void needFor() {
        GutterRights x = store(399, 99);
        Due.due("needFor(3, 39)", x.needFor(3, 39), 10);
        Due.due("needFor(3, 40), 1 short", x.needFor(3, 40), 9);
        x.change(3, 1, 400);
        Due.due("needFor(3, 40)", x.needFor(3, 40), 10);
        x.change(3, 1, 99);
        Due.due("needFor(3, 1): 99", x.needFor(3, 1), 99);
        x.change(3, 1, 98);
        Due.due("needFor(3, 1): 98", x.needFor(3, 1), 98);
        x.change(3, 1, 0);
        Due.due("needFor(3, 40): 0", x.needFor(3, 40), 0);
        x.change(3, 0, 6);
        x.change(3, 1, 1);
        Due.due("needFor(3, 1) of an invalid: 0", x.needFor(3, 1), 0);
        x.change(3, 1, 0);
        Due.due("needFor(3, 1) of a dry invalid", x.needFor(3, 1), Due.NONE);
    }

    /** Promise 18: HOUSE and MOSSY last for 40 HOURS with 400, a FONT with 200, a DUEL with 6 * 17. */
    private static void kindsFor() {
        GutterRights x = store(400, 10);
        Due.due("kindsFor with 400", x.kindsFor(3, 40), 1 | 1 << 1 | 1 << 4 | 1 << 5 | 1 << 6);
        x.change(3, 1, 399);
        Due.due("kindsFor with 399", x.kindsFor(3, 40), 1 << 1 | 1 << 4 | 1 << 6);
        Due.due("kindsFor with 399, 39", x.kindsFor(3, 39), 1 | 1 << 1 | 1 << 4 | 1 << 5 | 1 << 6);
        x.change(3, 1, 239);
        Due.due("kindsFor with 239", x.kindsFor(3, 40), 1 << 1 | 1 << 4);
        x.change(3, 1, 200);
        Due.due("kindsFor with 200", x.kindsFor(3, 40), 1 << 1 | 1 << 4);
        x.change(3, 1, 199);
        Due.due("kindsFor with 199", x.kindsFor(3, 40), 1 << 4);
        x.change(3, 1, 102);
        Due.due("kindsFor with 102", x.kindsFor(3, 40), 1 << 4);
        x.change(3, 1, 101);
        Due.due("kindsFor with 101", x.kindsFor(3, 40), 0);
    }

    /** Promise 19: HOUSE 10 gets 1 in each HOUR from the first on; it is full as a DYER sooner than as others. */
    private static void kindFor() {
        GutterRights x = chain(0);
        x.change(10, 3, 60);
        // As a HOUSE it lets nothing go ahead of the 71st HOUR, as a DYER, BREWERY or DUEL from the 41st on,
        // and then 1 is lost: so there is nothing in THE ALLEY.
        Due.due("kindFor(10, 40), nothing", x.kindFor(10, 40), 0);
        x.rain(3);
        // Now it gets 3: as a DYER it has 30 behind 20 HOURS and lets go 2 in each one behind that.
        x.change(10, 3, 61);
        Due.due("alley of it", x.alley(40), 3 * 30 - 61);
        Due.due("kindFor(10, 40)", x.kindFor(10, 40), 2);
        Due.due("kindFor(10, 20), none yet", x.kindFor(10, 20), 0);
        // In the 21st HOUR a DYER has 33: lets go 3, and 1 of it is lost.
        Due.due("kindFor(10, 21)", x.kindFor(10, 21), 2);
        x.change(10, 3, 0);
        Due.due("kindFor(10, 40), the least that loses none", x.kindFor(10, 40), 0);
        // Of 900 with NEED 3 a HOUSE and a FONT let go 897 in an even HOUR; a FONT lets go all in an odd one.
        x = chain(0);
        x.change(10, 0, 3);
        x.change(10, 1, 900);
        x.change(10, 2, 3);
        Due.due("kindFor(10, 1), even", x.kindFor(10, 1), 0);
        x.go(1);
        x.change(10, 1, 900);
        Due.due("kindFor(10, 1), odd", x.kindFor(10, 1), 1);
        Due.due("KIND stays", x.of(10, 0), 3);
    }

    /** Promise 20: "the next n (0 to 12) HOURS". */
    private static void turn() {
        GutterRights x = store(23, 2);
        Due.due("turn({3}, 11)", x.turn(1 << 3, 11), 0);
        Due.due("turn({3}, 12), 1 short", x.turn(1 << 3, 12), Due.NONE);
        x.change(3, 1, 24);
        Due.due("turn({3}, 12)", x.turn(1 << 3, 12), 0);
        // HOUSE 1 has 10 above what it holds: they come to HOUSE 3 if it is turned.
        x.change(3, 1, 23);
        x.change(1, 1, 10);
        x.change(2, 3, 999);
        Due.due("turn({3}, 12), by HOUSE 1", x.turn(1 << 3, 12), 1 << 1);
        Due.due("turn({3}, 11), none", x.turn(1 << 3, 11), 0);
        Due.due("SPOUTS stay", x.now(5), 0);
    }

    /** Sets of up to five HOUSES that must be turned; "of several the least". */
    private static void turnOfMany() {
        GutterRights x = new GutterRights();
        x.rain(0);
        for (int house = 0; house < 11; house++) {
            x.change(house, 2, house < 2 ? 0 : 1);
            x.change(house, 3, 0);
            x.change(house, 1, house < 4 ? 1 : 2);
        }
        // In the second HOUR HOUSE 2 needs what HOUSE 0 has, HOUSE 3 what HOUSE 1 has, 4 what 2 leaves, ..
        Due.due("turn of {2}", x.turn(1 << 2, 2), 0);
        Due.due("turn of {3}", x.turn(1 << 3, 2), 1 << 1);
        Due.due("turn of {2, 3}", x.turn(1 << 2 | 1 << 3, 2), 1 | 1 << 1);
        Due.due("turn of {1, 2, 3}", x.turn(7 << 1, 2), 1 | 1 << 1);
        x = new GutterRights();
        x.rain(0);
        for (int house = 0; house < 11; house++) {
            x.change(house, 2, house == 10 ? 1 : 0);
            x.change(house, 3, 0);
        }
        x.change(0, 1, 1);
        x.change(10, 1, 6);
        x.change(10, 3, 999);
        // HOUSE 10 has enough for six HOURS; water of HOUSE 0 is there behind six if four of the ten steps are
        // saved, and behind five if five are.
        Due.due("turn of {10}, 6", x.turn(1 << 10, 6), 0);
        Due.due("turn of {10}, 7", x.turn(1 << 10, 7), 1 | 1 << 2 | 1 << 4 | 1 << 6);
        x.change(10, 1, 5);
        Due.due("turn of {10}, 6, five are turned", x.turn(1 << 10, 6), 1 | 1 << 2 | 1 << 4 | 1 << 6 | 1 << 8);
        x.change(10, 1, 4);
        Due.due("turn of {10}, 5, too far", x.turn(1 << 10, 5), Due.NONE);
        x.spouts(1 | 1 << 2 | 1 << 4 | 1 << 6 | 1 << 8);
        x.change(9, 1, 9);
        x.change(9, 2, 1);
        x.change(9, 3, 999);
        Due.due("turn of {9}, 10: 8 leads to it when it is turned back", x.turn(1 << 9, 10), 1 << 8);
    }

    /** Promise 21: HOUSE 5 is DRY in the 40th HOUR, unless HOUSE 3 is turned. */
    private static void best() {
        GutterRights x = store(999, 0);
        x.change(3, 3, 900);
        x.change(4, 3, 999);
        x.change(5, 3, 999);
        x.change(5, 1, 399);
        x.change(5, 2, 10);
        Due.due("best(39)", x.best(39), 0);
        Due.due("best(40)", x.best(40), 3);
        x.spouts(1 << 3);
        Due.due("best(40), turned: not 3, so 0", x.best(40), 0);
        x.change(5, 1, 300);
        x.change(5, 2, 99);
        Due.due("best(40), all alike", x.best(40), 0);
    }

    /** Each HOUSE has just what comes from that ahead of it: the last one's SPOUT alone may be turned. */
    private static void bestOfTheLast() {
        GutterRights x = new GutterRights();
        x.rain(999);
        for (int house = 0; house < 11; house++) {
            x.change(house, 3, 0);
        }
        x.go(11);
        Due.due("best(1), all alike", x.best(1), 0);
        Due.due("best(2): 10", x.best(2), 10);
        Due.due("best(40): 10", x.best(40), 10);
        // Now HOUSE 10 gets nothing, and is DRY, unless 9 is turned back.
        x.change(9, 4, 1);
        x.change(10, 1, 2);
        Due.due("best(1), turned", x.best(1), 0);
        Due.due("best(2), turned back", x.best(2), 9);
    }

    /** All HOUSES are DRY in any case, or all but one. */
    private static void bestOfTheDriest() {
        GutterRights x = new GutterRights();
        x.rain(0);
        x.change(3, 1, 100);
        x.change(5, 1, 2);
        x.change(5, 3, 999);
        Due.due("dry(10)", x.dry(10), 2047);
        Due.due("best(10): 5 alone isn't dry", x.best(10), 3);
        x.change(5, 1, 1);
        Due.due("best(10): all are dry", x.best(10), 0);
    }

    /** What is in HOUSE 0 comes to HOUSE 10 behind ten HOURS, and is gone behind eleven: none may be turned. */
    private static void loveOfTheLast() {
        GutterRights x = chain(0);
        x.rain(0);
        x.change(0, 1, 9);
        Due.due("love(10, 9): one is saved", x.love(10, 9), 0);
        Due.due("love(10, 10): 10", x.love(10, 10), 10);
        Due.due("love(10, 11): all alike", x.love(10, 11), 0);
        Due.due("love(9, 9): 9", x.love(9, 9), 9);
        Due.due("love(0, 0): all alike", x.love(0, 0), 0);
    }

    /** Promise 22: in the 40th HOUR HOUSE 0 lets go 1, to HOUSE 2. */
    private static void love() {
        GutterRights x = chain(39);
        x.spouts(1);
        x.change(2, 3, 999);
        Due.due("love(2, 39)", x.love(2, 39), 0);
        Due.due("love(2, 40), not 0", x.love(2, 40), 1);
        x.spouts(0);
        Due.due("love(1, 40), not 0", x.love(1, 40), 1);
        Due.due("love(2, 40), 0", x.love(2, 40), 0);
        x.change(9, 1, 5);
        x.change(8, 1, 7);
        x.change(10, 3, 999);
        Due.due("love(10, 1): 8", x.love(10, 1), 8);
        Due.due("love(10, 2): all but 9, 5 come", x.love(10, 2), 0);
        x.spouts(1 << 9);
        Due.due("love(10, 40): 9", x.love(10, 40), 9);
        x.change(8, 1, 0);
        x.change(9, 1, 0);
        x.change(10, 1, 3);
        Due.due("love(10, 40), as it is", x.love(10, 40), 0);
    }

    /** Promise 23: 21 more on HOUSE 0 let it be full in the 30th HOUR, and THE ALLEY have 1 in the 40th. */
    private static void burst() {
        GutterRights x = chain(50);
        Due.due("burst(0, 21, 39)", x.burst(0, 21, 39), 0);
        Due.due("burst(0, 20, 40)", x.burst(0, 20, 40), 0);
        Due.due("burst(0, 21, 40)", x.burst(0, 21, 40), 1);
        Due.due("burst(10, 9999, 1)", x.burst(10, 9999, 1), 9999);
        x.change(10, 1, 1);
        Due.due("burst(10, 9999, 1), all but 1", x.burst(10, 9999, 1), 9998);
        x.change(10, 1, 9999);
        Due.due("burst(10, 9999, 1), none", x.burst(10, 9999, 1), 0);
        Due.due("LOST stays", x.now(3), 0);
    }

    /** Promise 7: "n HOURS (1 to 60)". */
    private static void go() {
        GutterRights x = chain(999);
        x.go(1);
        Due.due("WATER behind 1", x.of(0, 1), 1);
        Due.due("HOUR behind 1", x.now(0), 1);
        x.go(60);
        Due.due("WATER behind 61", x.of(0, 1), 61);
        Due.due("HOUR behind 61", x.now(0), 61);
        x.go(59);
        Due.due("HOUR behind 120", x.count(0), 120);
        x.change(0, 3, 0);
        Due.due("go(10)", x.go(10), 0);
        Due.due("go(1)", x.go(1), 121);
    }

    /** Promise 26: "n times (1 to 20)": so many draws, and so many HOURS. */
    private static void showers() {
        int[] times = {1, 2, 19, 20};
        for (int n : times) {
            GutterRights x = chain(999);
            int z = 1;
            int water = 0;
            for (int i = 0; i < n; i++) {
                z = z * 1103515245 + 12345;
                water += (z >>> 8) % 100;
            }
            x.change(7, 2, 1);
            Due.due("showers(" + n + ")", x.showers(n), n);
            Due.due("z behind " + n, x.count(6), z);
            Due.due("HOUR behind " + n, x.now(0), n);
            Due.due("RAIN behind " + n, x.now(6), (z >>> 8) % 100);
            Due.due("DRY behind " + n, x.of(7, 5), n);
            Due.due("WATER behind " + n, x.now(1) + x.now(2), water);
        }
    }

    /** Promise 27: each v, at both ends of n. */
    private static void odds() {
        GutterRights x = new GutterRights();
        for (int v = 0; v <= 100; v++) {
            int common = java.math.BigInteger.valueOf(100 - v).gcd(java.math.BigInteger.valueOf(100)).intValue();
            Due.due("odds(" + v + ", 1, 0)", x.odds(v, 1, 0), (100 - v) / common);
            Due.due("odds(" + v + ", 1, 1)", x.odds(v, 1, 1), 100 / common);
            long above = 1;
            long under = 1;
            for (int i = 0; i < 9; i++) {
                above *= (100 - v) / common;
                under *= 100 / common;
            }
            Due.due("odds(" + v + ", 9, 0)", x.odds(v, 9, 0), above);
            Due.due("odds(" + v + ", 9, 1)", x.odds(v, 9, 1), under);
        }
        Due.due("the most", new GutterRights().odds(1, 9, 1), 1000000000000000000L);
    }
}
