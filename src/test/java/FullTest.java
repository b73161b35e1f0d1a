/** What is full: THE TAPE, a sheet of 40 numbers, WATER, THE ALLEY, LOST, DRY, all HOUSES, all SPOTS. */
public final class FullTest {

    public static void main(String[] args) {
        fullTape();
        textsOfAFullTape();
        fullSheet();
        fullSheetSeen();
        fullSheetsCopied();
        fullWater();
        waterFromTwo();
        fullOfRain();
        fullAlley();
        fullAlleyAhead();
        fullLost();
        lostInAnHour();
        fullDry();
        mostOfAll();
        allSpots();
        Due.end();
    }

    /** Promise 29: 120 bytes in all, by feeds of 1 to 4. */
    private static void fullTape() {
        for (int n = 1; n <= 4; n++) {
            GutterRights x = new GutterRights();
            for (int has = n; has <= 120; has += n) {
                Due.due("feed(.., " + n + ")", x.feed(' ', n), has);
            }
            Due.due("count(5)", x.count(5), 120);
            for (int more = 1; more <= 4; more++) {
                Due.due("feed(.., " + more + ") to 120", x.feed(' ', more), Due.FULL);
                Due.due("count(5) stays", x.count(5), 120);
            }
            Due.due("status(1)", x.status(1), 4);
            Due.due("wipe", x.wipe(), 120);
            Due.due("feed behind wipe", x.feed(' ', n), n);
        }
        for (int n = 2; n <= 4; n++) {
            GutterRights x = new GutterRights();
            for (int i = 0; i < 121 - n; i++) {
                x.feed(' ', 1);
            }
            Due.due("feed(.., " + n + ") to " + (121 - n), x.feed(' ', n), Due.FULL);
            Due.due("feed(.., " + (n - 1) + ") to " + (121 - n), x.feed(' ', n - 1), 120);
        }
    }

    /** Promise 31: a TEXT of 120 bytes, and FAULTS at its last byte and behind it. */
    private static void textsOfAFullTape() {
        String begin = "rain 5;house 3 has 7 needs 9 holds 20 right;";
        String end = "font 10 has 9999 needs 99 holds 999";
        String text = begin + " ".repeat(120 - begin.length() - end.length()) + end;
        GutterRights x = new GutterRights();
        Due.due("length", text.length(), 120);
        Due.due("a text of 120", Due.text(x, text), 3);
        Due.due("of(10, 0)", x.of(10, 0), 1);
        Due.due("of(10, 3)", x.of(10, 3), 999);
        Due.due("of(3, 1)", x.of(3, 1), 7);
        Due.due("too early, at 120", Due.text(x, text.substring(0, 119) + ";"), -121);
        Due.due("fault at 119", Due.text(x, text.substring(0, 119) + "x"), -120);
        Due.due("of(10, 3) stays", x.of(10, 3), 999);
        Due.due("no finding", x.status(-1), 0);
        Due.due("119 blanks, a word", Due.text(x, " ".repeat(119) + "h"), -120);
    }

    /** Promises 34, 35, 37, 38: 40 numbers. */
    private static void fullSheet() {
        for (int bits = 8; bits <= 32; bits *= 2) {
            GutterRights x = new GutterRights();
            Due.due("sheet of 40", x.sheet(0, bits, 40), 40);
            Due.due("sheet of 41", x.sheet(0, bits, 41), Due.BEYOND);
            for (int i = 0; i < 40; i++) {
                Due.due("write " + i, x.write(0, i, 50 + i), 1);
            }
            Due.due("write 40", x.write(0, 40, 1), Due.BEYOND);
            Due.due("load", x.load(0), 11);
            for (int house = 0; house < 11; house++) {
                Due.due("need of " + house, x.of(house, 2), 50 + house);
            }
            x.sheet(1, bits, 11);
            Due.due("copy the last", x.copy(0, 29, 1, 0, 11), 11);
            Due.due("load the last", x.load(1), 11);
            for (int house = 0; house < 11; house++) {
                Due.due("need of " + house + " then", x.of(house, 2), 79 + house);
            }
            for (int i = 0; i < 40; i++) {
                x.write(0, i, i);
            }
            Due.due("judge: no HOUSE 11", x.judge(0), 12);
            Due.due("sheet of 40 again", x.sheet(0, bits, 40), 40);
            Due.due("judge: 0 leads to 1", x.judge(0), 2);
        }
    }

    /** Promises 24 and 25: the last of 40 numbers is of 39 HOURS further on. HOUSE 0 has 1 more in each. */
    private static void fullSheetSeen() {
        GutterRights x = new GutterRights();
        x.rain(1);
        x.change(0, 2, 0);
        x.change(0, 3, 999);
        x.sheet(0, 16, 40);
        for (int i = 0; i < 40; i++) {
            x.write(0, i, i == 0 || i == 39 ? i : -1);
        }
        Due.due("turned by 40", x.turned(0, 0), 2047);
        // An INVALID uses 1 in each HOUR, a MOSSY, FONT or HOUSE nothing; all but an INVALID keep 40.
        Due.due("kinds by 40", x.kinds(0, 0), 63);
        x.write(0, 39, 40);
        Due.due("turned by 40, none", x.turned(0, 0), 0);
        Due.due("kinds by 40, none", x.kinds(0, 0), 0);
        x.write(0, 39, 38);
        Due.due("turned by 40, still none", x.turned(0, 0), 0);
        x.write(0, 39, -1);
        Due.due("turned by 40, any", x.turned(0, 0), 2047);
    }

    /** Promise 36: all 40, and over one another. */
    private static void fullSheetsCopied() {
        GutterRights x = new GutterRights();
        x.sheet(0, 8, 40);
        x.sheet(1, 8, 40);
        for (int i = 0; i < 40; i++) {
            x.write(0, i, i);
        }
        Due.due("copy of 40", x.copy(0, 0, 1, 0, 40), 40);
        Due.due("copy of 41", x.copy(0, 0, 1, 0, 41), Due.BEYOND);
        Due.due("copy of 40 from 1", x.copy(0, 1, 1, 0, 40), Due.BEYOND);
        Due.due("copy of 40 to 1", x.copy(0, 0, 1, 1, 40), Due.BEYOND);
        Due.due("copy of none from 40 to 40", x.copy(0, 40, 1, 40, 0), 0);
        Due.due("copy of one from 40", x.copy(0, 40, 1, 0, 1), Due.BEYOND);
        Due.due("copy of one to 40", x.copy(0, 0, 1, 40, 1), Due.BEYOND);
        Due.due("copy of one from 39 to 39", x.copy(0, 39, 1, 39, 1), 1);
        Due.due("copy of none from 41", x.copy(0, 41, 1, 0, 0), Due.BEYOND);
        Due.due("copy of 39, ahead", x.copy(1, 0, 1, 1, 39), 39);
        Due.due("copy of 39, back", x.copy(0, 1, 0, 0, 39), 39);
        for (int i = 0; i < 40; i++) {
            Due.due("ahead: number " + i, needBy(x, 1, i), Math.max(0, i - 1));
            Due.due("back: number " + i, needBy(x, 0, i), Math.min(39, i + 1));
        }
    }

    private static int needBy(GutterRights x, int s, int i) {
        x.sheet(2, 8, 1);
        x.copy(s, i, 2, 0, 1);
        x.load(2);
        return x.of(0, 2);
    }

    /** "what is above 9999 is lost, LOST". */
    private static void fullWater() {
        GutterRights x = new GutterRights();
        Due.due("pour 9999", x.pour(2, 9999), 9999);
        Due.due("none is lost", x.now(3), 0);
        Due.due("pour 1", x.pour(2, 1), 9999);
        Due.due("1 is lost", x.now(3), 1);
        Due.due("pour 9999 again", x.pour(2, 9999), 9999);
        Due.due("10000 are lost", x.now(3), 10000);
        x.change(3, 1, 9999);
        Due.due("change loses none", x.now(3), 10000);
        Due.due("of(3, 1)", x.of(3, 1), 9999);
        Due.text(x, "house 4 has 9999");
        Due.due("a text loses none", x.now(3), 10000);
        Due.due("when(4, 9999)", x.when(4, 9999), 0);
        for (int house = 0; house < 11; house++) {
            x.change(house, 1, 9999);
        }
        Due.due("now(1)", x.now(1), 11 * 9999);
        Due.due("count(3)", x.count(3), 11 * 9999);
    }

    /** Promise 7: HOUSE 2 gets water of HOUSES 0 and 1 at once; what is above 9999 then is LOST. */
    private static void waterFromTwo() {
        GutterRights x = noNeeds();
        x.spouts(1);
        x.change(0, 1, 4000);
        x.change(1, 1, 5000);
        x.change(2, 1, 999);
        x.change(2, 3, 999);
        x.go(1);
        Due.due("just 9999", x.of(2, 1), 9999);
        Due.due("none is lost", x.now(3), 0);
        x.change(0, 1, 4001);
        x.change(1, 1, 5000);
        x.change(2, 1, 999);
        Due.due("when(2, 9999)", x.when(2, 9999), 1);
        x.go(1);
        Due.due("10000", x.of(2, 1), 9999);
        Due.due("1 is lost", x.now(3), 1);
        x.change(0, 1, 9999);
        x.change(1, 1, 9999);
        x.change(2, 1, 9999);
        Due.due("ahead(2, 1, 1)", x.ahead(2, 1, 1), 9999);
        x.go(1);
        Due.due("much", x.of(2, 1), 9999);
        Due.due("much is lost", x.now(3), 1 + 999 + 9999);
        Due.due("what it let go", x.of(3, 1), 9000);
    }

    /** No RAIN, no NEEDS, no HOLDS. */
    private static GutterRights noNeeds() {
        GutterRights x = new GutterRights();
        x.rain(0);
        for (int house = 0; house < 11; house++) {
            x.change(house, 2, 0);
            x.change(house, 3, 0);
        }
        return x;
    }

    /** "(WATER above 9999 is LOST, too, also in (1).)": ahead of what HOUSE 0 uses in the same HOUR. */
    private static void fullOfRain() {
        GutterRights x = new GutterRights();
        x.change(0, 3, 999);
        x.change(0, 1, 9979);
        x.go(1);
        Due.due("just 9999: none is lost", x.now(3), 0);
        Due.due("of(1, 1)", x.of(1, 1), 9999 - 2 - 999);
        x.change(0, 1, 9980);
        x.go(1);
        Due.due("10000: 1 is lost", x.now(3), 1);
        x.change(0, 1, 9999);
        x.rain(999);
        x.change(0, 2, 99);
        x.change(1, 1, 0);
        x.go(1);
        Due.due("all of the RAIN is lost", x.now(3), 1000);
        Due.due("and what is used, of 9999", x.of(1, 1), 9999 - 99 - 999);
    }

    /** THE ALLEY: "0 to 999999"; "both stay at most that". */
    private static void fullAlley() {
        GutterRights x = almostFullAlley();
        x.image();
        Due.due("999900", x.now(2), 999900);
        x.change(10, 1, 99);
        Due.due("just 999999", x.go(1), 999999);
        Due.due("full of it", x.count(4), 999999);
        x.change(10, 1, 1);
        Due.due("1 more", x.go(1), 999999);
        x.undo();
        x.change(10, 1, 98);
        Due.due("999998", x.go(1), 999998);
        x.undo();
        x.change(10, 1, 100);
        Due.due("1000000", x.go(1), 999999);
        x.undo();
        x.change(10, 1, 9999);
        Due.due("much more", x.go(1), 999999);
        Due.due("nothing of THE ALLEY is LOST", x.now(3), 0);
    }

    private static GutterRights almostFullAlley() {
        GutterRights x = noNeeds();
        for (int i = 0; i < 100; i++) {
            x.change(10, 1, 9999);
            x.go(1);
        }
        return x;
    }

    private static void fullAlleyAhead() {
        GutterRights x = almostFullAlley();
        x.change(9, 1, 98);
        Due.due("alley(1)", x.alley(1), 999900);
        Due.due("alley(2)", x.alley(2), 999998);
        Due.due("burst of 1", x.burst(10, 1, 40), 1);
        Due.due("burst of 2", x.burst(10, 2, 40), 1);
        Due.due("burst of 9999", x.burst(10, 9999, 2), 1);
        Due.due("burst of 9999, at once", x.burst(10, 9999, 1), 99);
        x.change(9, 1, 500);
        Due.due("alley(2) at most", x.alley(2), 999999);
        Due.due("alley(100) at most", x.alley(100), 999999);
        Due.due("burst on a full one", x.burst(10, 9999, 40), 0);
        Due.due("kindFor, all of them full", x.kindFor(10, 40), 0);
        Due.due("nothing changes", x.now(2), 999900);
    }

    private static void fullLost() {
        GutterRights x = new GutterRights();
        x.pour(7, 9999);
        for (int i = 0; i < 100; i++) {
            x.pour(7, 9999);
        }
        Due.due("999900", x.now(3), 999900);
        x.image();
        x.pour(7, 98);
        Due.due("999998", x.now(3), 999998);
        x.pour(7, 1);
        Due.due("999999", x.now(3), 999999);
        x.pour(7, 1);
        Due.due("1 more", x.now(3), 999999);
        x.undo();
        Due.due("pour(7, 100)", x.pour(7, 100), 9999);
        Due.due("1000000", x.now(3), 999999);
        Due.due("pour(7, 9999)", x.pour(7, 9999), 9999);
        Due.due("much more", x.now(3), 999999);
    }

    /** What an HOUR loses, in (1) and (3), and to moss, comes to LOST, which stays at most 999999. */
    private static void lostInAnHour() {
        GutterRights x = noNeeds();
        for (int i = 0; i < 101; i++) {
            x.pour(7, 9999);
        }
        x.change(7, 1, 0);
        x.pour(8, 9999);
        x.pour(8, 93);
        x.change(8, 1, 0);
        Due.due("999993", x.now(3), 999993);
        x.change(4, 0, 5);
        x.change(4, 1, 50);
        x.go(1);
        Due.due("5 to moss", x.now(3), 999998);
        Due.due("45 go on", x.of(5, 1), 45);
        x.change(4, 1, 50);
        x.go(1);
        Due.due("5 more to moss", x.now(3), 999999);
        x.rain(999);
        x.change(0, 1, 9999);
        x.go(1);
        Due.due("RAIN", x.now(3), 999999);
    }

    /** Terms: DRY is 0 to 9999. */
    private static void fullDry() {
        GutterRights x = new GutterRights();
        x.rain(0);
        x.change(6, 5, 9939);
        x.go(60);
        Due.due("9999", x.of(6, 5), 9999);
        x.go(60);
        Due.due("stays 9999", x.of(6, 5), 9999);
        Due.due("ahead(6, 5, 100)", x.ahead(6, 5, 100), 9999);
        Due.due("dry(1) tells it still", x.dry(1), 2047);
        Due.due("showers(1) tells it still", x.showers(1), 1);
    }

    /** With NEED 99 and HOLDS 999: rows of KINDS; USES in HOUR 0, in HOUR 5, KEEPS. */
    private static void mostOfAll() {
        int[][] due = {{99, 99, 999}, {99, 0, 999}, {198, 198, 499}, {195, 195, 598}, {0, 195, 598}, {99, 99, 999},
            {100, 1, 1009}};
        GutterRights x = new GutterRights();
        for (int kind = 0; kind < 7; kind++) {
            x.change(kind, 0, kind);
            x.change(kind, 2, 99);
            x.change(kind, 3, 999);
            Due.due("USES of " + kind + " in HOUR 0", x.of(kind, 6), due[kind][0]);
            Due.due("KEEPS of " + kind, x.of(kind, 7), due[kind][2]);
        }
        x.go(5);
        for (int kind = 0; kind < 7; kind++) {
            Due.due("USES of " + kind + " in HOUR 5", x.of(kind, 6), due[kind][1]);
        }
    }

    private static void allSpots() {
        GutterRights x = new GutterRights();
        for (int spot = 0; spot < 10; spot++) {
            x.hold(spot, 10);
        }
        Due.due("count(7)", x.count(7), 10);
        for (int spot = 0; spot < 10; spot++) {
            Due.due("as(" + spot + ", 0)", x.as(spot, 0), 10);
        }
        Due.due("hold(10, 0)", x.hold(10, 0), Due.BEYOND);
        Due.due("count(7) stays", x.count(7), 10);
    }
}
