/** Promises 9 to 14: ahead, alley, dry, when, settles, below. */
public final class AheadTest {

    public static void main(String[] args) {
        ahead();
        alley();
        dry();
        when();
        settles();
        below();
        Due.end();
    }

    /** A new quarter: WATER of HOUSES 0, 1, 2 is 10, 8, 0, then 10, 24, 0, then 10, 28, 12. */
    private static void ahead() {
        GutterRights x = new GutterRights();
        Due.due("ahead(1, 1, 0)", x.ahead(1, 1, 0), 0);
        Due.due("ahead(1, 1, 1)", x.ahead(1, 1, 1), 8);
        Due.due("ahead(1, 1, 2)", x.ahead(1, 1, 2), 24);
        Due.due("ahead(2, 1, 3)", x.ahead(2, 1, 3), 12);
        Due.due("ahead(0, 5, 100)", x.ahead(0, 5, 100), 0);
        Due.due("ahead(1, 5, 100)", x.ahead(1, 5, 100), 1);
        Due.due("ahead(2, 5, 100)", x.ahead(2, 5, 100), 3);
        Due.due("nothing changes", x.now(0) + x.now(1) + x.now(4), 0);
        Due.due("ahead(0, 0, 1)", x.ahead(0, 0, 1), Due.BEYOND);
        Due.due("ahead(0, 2, 1)", x.ahead(0, 2, 1), Due.BEYOND);
        Due.due("ahead(0, 4, 1)", x.ahead(0, 4, 1), Due.BEYOND);
        Due.due("ahead(0, 6, 1)", x.ahead(0, 6, 1), Due.BEYOND);
        Due.due("ahead(-1, 1, 1)", x.ahead(-1, 1, 1), Due.BEYOND);
        Due.due("ahead(11, 1, 1)", x.ahead(11, 1, 1), Due.BEYOND);
        Due.due("ahead(0, 1, -1)", x.ahead(0, 1, -1), Due.BEYOND);
        Due.due("ahead(0, 1, 101)", x.ahead(0, 1, 101), Due.BEYOND);
        Due.due("status(0)", x.status(0), 8);
        x.change(4, 5, 9998);
        Due.due("ahead(4, 5, 5)", x.ahead(4, 5, 5), 9999);
    }

    private static void alley() {
        GutterRights x = new GutterRights();
        x.rain(0);
        x.change(10, 1, 100);
        Due.due("alley(0)", x.alley(0), 0);
        Due.due("alley(1)", x.alley(1), 88);
        Due.due("alley(100)", x.alley(100), 88);
        Due.due("nothing changes", x.now(2), 0);
        x.go(1);
        Due.due("alley(0) then", x.alley(0), 88);
        Due.due("alley(-1)", x.alley(-1), Due.BEYOND);
        Due.due("alley(101)", x.alley(101), Due.BEYOND);
    }

    private static void dry() {
        GutterRights x = new GutterRights();
        x.change(10, 5, 9999);
        x.change(9, 1, 2);
        x.change(8, 1, 4);
        x.change(0, 5, 1);
        Due.due("dry(0)", x.dry(0), 0);
        Due.due("dry(1)", x.dry(1), 2046 & ~(1 << 9) & ~(1 << 8));
        Due.due("dry(2)", x.dry(2), 2046 & ~(1 << 8));
        Due.due("dry(3)", x.dry(3), 2046);
        Due.due("dry(100)", x.dry(100), 2046);
        Due.due("dry(-1)", x.dry(-1), Due.BEYOND);
        Due.due("dry(101)", x.dry(101), Due.BEYOND);
        Due.due("nothing changes", x.of(1, 5), 0);
    }

    private static void when() {
        GutterRights x = new GutterRights();
        Due.due("when(3, 0)", x.when(3, 0), 0);
        Due.due("when(0, 10)", x.when(0, 10), 1);
        Due.due("when(0, 11)", x.when(0, 11), Due.NONE);
        Due.due("when(1, 9)", x.when(1, 9), 2);
        Due.due("when(1, 24)", x.when(1, 24), 2);
        Due.due("when(1, 28)", x.when(1, 28), 3);
        Due.due("when(1, 29)", x.when(1, 29), Due.NONE);
        Due.due("when(0, 9999)", x.when(0, 9999), Due.NONE);
        Due.due("when(0, 10000)", x.when(0, 10000), Due.BEYOND);
        Due.due("when(0, -1)", x.when(0, -1), Due.BEYOND);
        Due.due("when(11, 0)", x.when(11, 0), Due.BEYOND);
        Due.due("when(-1, 0)", x.when(-1, 0), Due.BEYOND);
        Due.due("nothing changes", x.now(0), 0);
        slowlyFull(x, 0);
        Due.due("when(0, 100)", x.when(0, 100), 100);
        Due.due("when(0, 101)", x.when(0, 101), Due.NONE);
        Due.due("status(3)", x.status(3), 4);
    }

    /** HOUSE 0 gets 1 in each HOUR and keeps it, up to 999. */
    private static void slowlyFull(GutterRights x, int water) {
        x.rain(1);
        x.change(0, 1, water);
        x.change(0, 2, 0);
        x.change(0, 3, 999);
    }

    private static void settles() {
        GutterRights x = new GutterRights();
        x.rain(0);
        Due.due("settles at once", x.settles(), 0);
        slowlyFull(x, 998);
        // 999 behind one HOUR; behind two, 1 is in HOUSE 1, and is used and comes again from then on.
        Due.due("settles", x.settles(), 2);
        slowlyFull(x, 900);
        Due.due("settles behind 100", x.settles(), 100);
        slowlyFull(x, 899);
        Due.due("settles behind 101", x.settles(), Due.NONE);
        Due.due("nothing changes", x.now(0), 0);
        // A font that uses 2 in even HOURS and gets 1: 1, 0, 1, 0 and so on.
        x.change(0, 0, 1);
        x.change(0, 1, 1);
        x.change(0, 2, 2);
        Due.due("a font never settles", x.settles(), Due.NONE);
        Due.due("status(3)", x.status(3), 2);
    }

    private static void below() {
        GutterRights x = new GutterRights();
        Due.due("below(0)", x.below(0), 2047);
        Due.due("below(7)", x.below(7), 1 << 7 | 1 << 8 | 1 << 9 | 1 << 10);
        Due.due("below(10)", x.below(10), 1 << 10);
        x.spouts(2047);
        Due.due("turned: below(0)", x.below(0), 1365);
        Due.due("turned: below(1)", x.below(1), 682);
        Due.due("turned: below(9)", x.below(9), 512);
        Due.due("turned: below(10)", x.below(10), 1024);
        x.spouts(1 << 2);
        Due.due("one turned: below(0)", x.below(0), 2047 & ~(1 << 3));
        Due.due("below(-1)", x.below(-1), Due.BEYOND);
        Due.due("below(11)", x.below(11), Due.BEYOND);
    }
}
