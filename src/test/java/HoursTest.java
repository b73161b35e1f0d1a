/** Promises 7 and 8: go, now, and what AN HOUR does. */
public final class HoursTest {

    public static void main(String[] args) {
        firstHours();
        edgesOfUse();
        allAtOnce();
        losesAndLost();
        above9999();
        atMost();
        beyond();
        hourAtMost();
        Due.end();
    }

    /** RAIN 20, NEED 2, HOLDS 10: HOUSE 0 uses 2, keeps 10, lets go 8; then 18 in each HOUR. */
    private static void firstHours() {
        GutterRights x = new GutterRights();
        Due.due("go(1)", x.go(1), 0);
        Due.due("hour", x.now(0), 1);
        Due.due("of(0, 1)", x.of(0, 1), 10);
        Due.due("of(1, 1)", x.of(1, 1), 8);
        Due.due("dry ever", x.now(4), 2046);
        Due.due("of(1, 5)", x.of(1, 5), 1);
        x.go(1);
        Due.due("of(0, 1) then", x.of(0, 1), 10);
        Due.due("of(1, 1) then", x.of(1, 1), 6 + 18);
        Due.due("of(2, 1) then", x.of(2, 1), 0);
        Due.due("of(1, 5) then", x.of(1, 5), 1);
        Due.due("of(2, 5) then", x.of(2, 5), 2);
        x.go(1);
        Due.due("of(1, 1) at last", x.of(1, 1), 10 + 18);
        Due.due("of(2, 1) at last", x.of(2, 1), 24 - 2 - 10);
        Due.due("water of all", x.now(1), 10 + 28 + 12);
        Due.due("hour at last", x.now(0), 3);
        Due.due("go(60)", x.go(60), 0);
        Due.due("hour behind go(60)", x.now(0), 63);
    }

    private static void edgesOfUse() {
        GutterRights x = new GutterRights();
        x.rain(0);
        x.change(5, 1, 2);
        x.change(6, 1, 1);
        x.change(7, 1, 12);
        x.change(8, 2, 0);
        x.go(1);
        Due.due("just enough isn't dry", x.of(5, 5), 0);
        Due.due("just enough is used", x.of(5, 1), 0);
        Due.due("too little is dry", x.of(6, 5), 1);
        Due.due("too little is used", x.of(6, 1), 0);
        Due.due("just what it keeps", x.of(7, 1), 10);
        Due.due("no need isn't dry", x.of(8, 5), 0);
        Due.due("none came", x.of(8, 1), 0);
        Due.due("now(4)", x.now(4), 2047 & ~(1 << 5) & ~(1 << 7) & ~(1 << 8));
        x.change(6, 5, 0);
        x.change(5, 5, 9);
        Due.due("now(4) by DRY as it is", x.now(4), 2047 & ~(1 << 6) & ~(1 << 7) & ~(1 << 8));
    }

    /** What came in an HOUR is neither used nor let go in it. */
    private static void allAtOnce() {
        GutterRights x = new GutterRights();
        x.rain(0);
        for (int house = 0; house < 11; house++) {
            x.change(house, 2, 0);
            x.change(house, 3, 0);
            x.change(house, 1, 100 + house);
        }
        Due.due("go(1)", x.go(1), 110);
        Due.due("of(0, 1)", x.of(0, 1), 0);
        for (int house = 1; house < 11; house++) {
            Due.due("of(" + house + ", 1)", x.of(house, 1), 99 + house);
        }
        x.spouts(1 << 9 | 1 << 3);
        Due.due("go(1) with turned spouts", x.go(1), 110 + 108 + 109);
        Due.due("of(5, 1)", x.of(5, 1), 102 + 103);
        Due.due("of(4, 1)", x.of(4, 1), 0);
        Due.due("of(10, 1)", x.of(10, 1), 0);
    }

    private static void losesAndLost() {
        GutterRights x = new GutterRights();
        x.rain(0);
        for (int house = 0; house < 11; house++) {
            x.change(house, 2, 0);
            x.change(house, 3, 4);
        }
        x.change(1, 0, 5);
        x.change(1, 1, 14);
        x.change(3, 0, 5);
        x.change(3, 1, 7);
        x.change(5, 0, 2);
        x.change(5, 1, 9);
        x.change(7, 0, 3);
        x.change(7, 1, 3);
        x.change(9, 0, 4);
        x.change(9, 1, 2);
        x.go(1);
        Due.due("mossy lets go 10, loses 5", x.of(2, 1), 5);
        Due.due("mossy lets go 3, loses it all", x.of(4, 1), 0);
        Due.due("dyer keeps 2, loses 1 of 7", x.of(6, 1), 6);
        Due.due("brewery keeps 2, loses 1 of 1", x.of(8, 1), 0);
        Due.due("duel keeps 2 of 2", x.of(9, 1), 2);
        Due.due("lost", x.now(3), 5 + 3 + 1 + 1);
        x.change(9, 2, 3);
        x.change(9, 1, 8);
        x.change(10, 0, 6);
        x.change(10, 1, 20);
        x.change(8, 1, 0);
        x.change(8, 3, 999);
        Due.due("invalid keeps 14, uses 1", x.go(1), 5);
        Due.due("invalid", x.of(10, 1), 14 + 2);
        Due.due("duel keeps 2 and need", x.of(9, 1), 5);
    }

    private static void above9999() {
        GutterRights x = new GutterRights();
        x.rain(10);
        x.change(0, 1, 9995);
        x.go(1);
        Due.due("rain above 9999 is lost", x.now(3), 6);
        Due.due("of(1, 1)", x.of(1, 1), 9999 - 2 - 10);
        x.change(2, 3, 999);
        x.change(2, 1, 999);
        x.change(0, 1, 9000);
        x.spouts(1);
        x.go(1);
        Due.due("what came above 9999 is lost", x.of(2, 1), 9999);
        Due.due("lost", x.now(3), 6 + (997 + (9010 - 12) + (9987 - 12) - 9999));
    }

    private static void atMost() {
        GutterRights x = new GutterRights();
        x.change(10, 5, 9998);
        x.go(1);
        Due.due("dry 9999", x.of(10, 5), 9999);
        x.go(2);
        Due.due("dry stays 9999", x.of(10, 5), 9999);
        x = new GutterRights();
        x.spouts(1 << 9);
        x.rain(0);
        for (int house = 9; house < 11; house++) {
            x.change(house, 2, 0);
            x.change(house, 3, 0);
        }
        for (int i = 1; i <= 50; i++) {
            x.pour(9, 9999);
            x.pour(10, 9999);
            Due.due("alley " + i, x.go(1), i * 2 * 9999);
        }
        x.pour(10, 9999);
        Due.due("alley stays at most", x.go(1), 999999);
        Due.due("alley stays so", x.now(2), 999999);
        Due.due("count(4)", x.count(4), 999999);
        x.pour(10, 500);
        Due.due("alley(1) stays so", x.alley(1), 999999);
    }

    private static void beyond() {
        GutterRights x = new GutterRights();
        Due.due("go(0)", x.go(0), Due.BEYOND);
        Due.due("go(-1)", x.go(-1), Due.BEYOND);
        Due.due("go(61)", x.go(61), Due.BEYOND);
        Due.due("go(min)", x.go(Integer.MIN_VALUE), Due.BEYOND);
        Due.due("now(-1)", x.now(-1), Due.BEYOND);
        Due.due("now(7)", x.now(7), Due.BEYOND);
        Due.due("hour", x.now(0), 0);
        Due.due("status(0)", x.status(0), 6);
    }

    /** More than 512 calls, which the document leaves free: there is no other way to STATE. */
    private static void hourAtMost() {
        GutterRights x = new GutterRights();
        for (int i = 0; i < 1666; i++) {
            x.go(60);
        }
        Due.due("hour", x.now(0), 99960);
        Due.due("go(40)", x.go(40), Due.STATE);
        Due.due("go(61) is BEYOND first", x.go(61), Due.BEYOND);
        x.image();
        Due.due("go(39) is not too far", x.go(39) < 0 ? 1 : 0, 0);
        Due.due("hour behind go(39)", x.now(0), 99999);
        x.undo();
        x.go(29);
        Due.due("showers(11)", x.showers(11), Due.STATE);
        Due.due("showers(21) is BEYOND first", x.showers(21), Due.BEYOND);
        x.showers(10);
        Due.due("hour at most", x.now(0), 99999);
        Due.due("go(1)", x.go(1), Due.STATE);
        Due.due("showers(1)", x.showers(1), Due.STATE);
        x.rain(0);
        for (int house = 0; house < 11; house++) {
            x.change(house, 1, house == 3 ? 1 : 0);
        }
        x.change(3, 0, 1);
        Due.due("a font uses nothing in HOUR 99999", x.of(3, 6), 0);
        Due.due("HOUR stays 99999 ahead", x.dry(3) >> 3 & 1, 0);
        Due.due("and further ahead", x.ahead(3, 1, 100), 1);
    }
}
