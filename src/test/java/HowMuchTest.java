/** Promises 15 to 19: rainFor, holdsFor, needFor, kindsFor, kindFor. */
public final class HowMuchTest {

    public static void main(String[] args) {
        rainFor();
        holdsFor();
        needFor();
        kindsFor();
        kindFor();
        beyond();
        Due.end();
    }

    private static void rainFor() {
        GutterRights x = new GutterRights();
        Due.due("rainFor(0, 0)", x.rainFor(0, 0), 0);
        Due.due("rainFor(0, 1)", x.rainFor(0, 1), 2);
        Due.due("rainFor(0, 40)", x.rainFor(0, 40), 2);
        Due.due("rainFor(1, 0)", x.rainFor(1, 0), 0);
        Due.due("rainFor(1, 1)", x.rainFor(1, 1), Due.NONE);
        x.change(1, 1, 2);
        Due.due("rainFor(1, 1) with water", x.rainFor(1, 1), 0);
        Due.due("rainFor(1, 2)", x.rainFor(1, 2), 2 + 10 + 2);
        Due.due("rain stays", x.now(6), 20);
        // HOUSE 1 uses 198; HOUSE 0 uses 99 and holds 702: 999 is just enough.
        x.change(1, 0, 2);
        x.change(1, 1, 198);
        x.change(1, 2, 99);
        x.change(0, 2, 99);
        x.change(0, 3, 702);
        Due.due("rainFor: 999", x.rainFor(1, 2), 999);
        x.change(0, 3, 703);
        Due.due("rainFor: 1000", x.rainFor(1, 2), Due.NONE);
    }

    /** HOUSE 3 has 100, gets nothing, uses 10: behind the first HOUR it has what it holds. */
    private static void holdsFor() {
        GutterRights x = new GutterRights();
        x.rain(0);
        x.change(3, 1, 100);
        x.change(3, 2, 10);
        x.change(3, 3, 500);
        Due.due("holdsFor(3, 0)", x.holdsFor(3, 0), 0);
        Due.due("holdsFor(3, 1)", x.holdsFor(3, 1), 0);
        Due.due("holdsFor(3, 2)", x.holdsFor(3, 2), 10);
        Due.due("holdsFor(3, 10)", x.holdsFor(3, 10), 90);
        Due.due("holdsFor(3, 11)", x.holdsFor(3, 11), Due.NONE);
        Due.due("holds stay", x.of(3, 3), 500);
        x.change(3, 0, 2);
        Due.due("holdsFor(3, 2) of a dyer", x.holdsFor(3, 2), 40);
        x.change(3, 0, 0);
        x.change(3, 1, 9999);
        x.change(3, 2, 40);
        Due.due("holdsFor: 200", x.holdsFor(3, 6), 200);
        Due.due("holdsFor: 240", x.holdsFor(3, 7), Due.NONE);
        x.change(3, 2, 67);
        Due.due("holdsFor: 201", x.holdsFor(3, 4), Due.NONE);
    }

    private static void needFor() {
        GutterRights x = new GutterRights();
        x.rain(0);
        x.change(3, 1, 30);
        x.change(3, 3, 100);
        Due.due("needFor(3, 0)", x.needFor(3, 0), 99);
        Due.due("needFor(3, 1)", x.needFor(3, 1), 30);
        Due.due("needFor(3, 3)", x.needFor(3, 3), 10);
        Due.due("needFor(3, 4)", x.needFor(3, 4), 7);
        Due.due("needFor(3, 40)", x.needFor(3, 40), 0);
        Due.due("need stays", x.of(3, 2), 2);
        x.change(3, 0, 2);
        Due.due("needFor(3, 3) of a dyer", x.needFor(3, 3), 5);
        x.change(3, 0, 6);
        Due.due("needFor(3, 1) of an invalid", x.needFor(3, 1), 29);
        x.change(3, 1, 0);
        Due.due("needFor(3, 1) of a dry invalid", x.needFor(3, 1), Due.NONE);
        // A brewery that holds 0 keeps NEED, and uses twice NEED less 3.
        x.change(3, 0, 3);
        x.change(3, 1, 100);
        x.change(3, 3, 0);
        Due.due("needFor(3, 1) of a brewery", x.needFor(3, 1), 51);
        Due.due("needFor(3, 2) of a brewery", x.needFor(3, 2), 3);
    }

    private static void kindsFor() {
        GutterRights x = new GutterRights();
        x.rain(0);
        x.change(5, 0, 2);
        x.change(5, 1, 4);
        x.change(5, 2, 4);
        Due.due("kindsFor(5, 0)", x.kindsFor(5, 0), 127);
        Due.due("kindsFor(5, 1)", x.kindsFor(5, 1), 1 | 1 << 1 | 1 << 4 | 1 << 5);
        Due.due("kindsFor(5, 2)", x.kindsFor(5, 2), 1 << 1 | 1 << 4);
        Due.due("kindsFor(5, 3)", x.kindsFor(5, 3), 1 << 4);
        Due.due("kindsFor(5, 5)", x.kindsFor(5, 5), 1 << 4);
        Due.due("kindsFor(5, 6)", x.kindsFor(5, 6), 0);
        Due.due("kind stays", x.of(5, 0), 2);
    }

    /** HOUSE 10 has 100, needs 4, holds 20: THE ALLEY gets 76, 76, 81, 80, 85, 71, 65 by its KINDS. */
    private static void kindFor() {
        GutterRights x = new GutterRights();
        x.rain(0);
        x.change(10, 0, 5);
        x.change(10, 1, 100);
        x.change(10, 2, 4);
        x.change(10, 3, 20);
        Due.due("kindFor(10, 0)", x.kindFor(10, 0), 0);
        Due.due("kindFor(10, 1)", x.kindFor(10, 1), 4);
        x.change(10, 2, 9);
        // Now a dyer lets 71 go, a brewery and a duel that keeps 19: 65, 80.
        Due.due("kindFor(10, 1) with need 9", x.kindFor(10, 1), 4);
        x.change(10, 2, 0);
        Due.due("kindFor(10, 1) with no need: the least of three", x.kindFor(10, 1), 2);
        x.change(10, 3, 0);
        Due.due("kindFor(10, 1) that holds nothing", x.kindFor(10, 1), 0);
        Due.due("kindFor(9, 1)", x.kindFor(9, 1), 0);
        Due.due("kind stays", x.of(10, 0), 5);
    }

    private static void beyond() {
        int[][] wrong = {{-1, 0}, {11, 0}, {0, -1}, {0, 41}};
        GutterRights x = new GutterRights();
        for (int[] w : wrong) {
            Due.due("rainFor", x.rainFor(w[0], w[1]), Due.BEYOND);
            Due.due("holdsFor", x.holdsFor(w[0], w[1]), Due.BEYOND);
            Due.due("needFor", x.needFor(w[0], w[1]), Due.BEYOND);
            Due.due("kindsFor", x.kindsFor(w[0], w[1]), Due.BEYOND);
            Due.due("kindFor", x.kindFor(w[0], w[1]), Due.BEYOND);
        }
        Due.due("status(0)", x.status(0), 20);
    }
}
