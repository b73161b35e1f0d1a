/** Promises 26 to 28: showers, odds, seed. */
public final class ShowersTest {

    public static void main(String[] args) {
        draws();
        showersThatLeaveDry();
        anyHouse();
        beyond();
        odds();
        seed();
        Due.end();
    }

    /** From z 1: 1103527590, whose bits above the lowest 8 are 4310654. */
    private static void draws() {
        GutterRights x = new GutterRights();
        Due.due("showers(1)", x.showers(1), 1);
        Due.due("rain", x.now(6), 54);
        Due.due("z", x.count(6), 1103527590);
        Due.due("hour", x.now(0), 1);
        Due.due("of(0, 1)", x.of(0, 1), 10);
        Due.due("of(1, 1)", x.of(1, 1), 54 - 12);
        int[] seeds = {0, -1, 5, Integer.MIN_VALUE, Integer.MAX_VALUE, 123456789};
        for (int seed : seeds) {
            x.seed(seed);
            int z = seed;
            for (int i = 0; i < 6; i++) {
                z = nextZ(z);
                x.showers(1);
                Due.due("rain from " + seed, x.now(6), rainOf(z));
                Due.due("z from " + seed, x.count(6), z);
            }
        }
    }

    private static int nextZ(int z) {
        return (int) (z * 1103515245L + 12345L);
    }

    private static long rainOf(int z) {
        return (z & 0xFFFFFFFFL) / 256 % 100;
    }

    /** HOUSE 0 alone needs water: 50, and holds none; so it is DRY just when RAIN is below 50. */
    private static void showersThatLeaveDry() {
        GutterRights x = new GutterRights();
        for (int house = 0; house < 11; house++) {
            x.change(house, 2, 0);
        }
        Due.due("showers(20), none dry", x.showers(20), 0);
        Due.due("hour", x.now(0), 20);
        x.change(0, 1, 0);
        x.change(0, 2, 50);
        x.change(0, 3, 0);
        x.change(0, 5, 9999);
        int z = x.count(6);
        int dry = 0;
        for (int i = 0; i < 20; i++) {
            z = nextZ(z);
            dry += rainOf(z) < 50 ? 1 : 0;
        }
        Due.due("showers(20), some dry", x.showers(20), dry);
        Due.due("z behind twenty", x.count(6), z);
        Due.due("rain stays as drawn last", x.now(6), rainOf(z));
    }

    /** "in how many of these any HOUSE was DRY": each one counts, and several count once. */
    private static void anyHouse() {
        for (int dry = 0; dry < 11; dry++) {
            GutterRights x = new GutterRights();
            for (int house = 0; house < 11; house++) {
                x.change(house, 2, house == dry ? 99 : 0);
                x.change(house, 3, 0);
            }
            x.change(dry, 0, 2);
            Due.due("showers(1), " + dry + " is dry", x.showers(1), 1);
            Due.due("it was", x.now(4), 1 << dry);
            x.change(dry, 1, 198);
            Due.due("showers(1), " + dry + " isn't", x.showers(1), 0);
        }
        GutterRights x = new GutterRights();
        for (int house = 0; house < 11; house++) {
            x.change(house, 2, 99);
        }
        Due.due("all are dry", x.showers(20), 20);
    }

    private static void beyond() {
        GutterRights x = new GutterRights();
        Due.due("showers(0)", x.showers(0), Due.BEYOND);
        Due.due("showers(-5)", x.showers(-5), Due.BEYOND);
        Due.due("showers(21)", x.showers(21), Due.BEYOND);
        Due.due("z stays", x.count(6), 1);
        Due.due("rain stays", x.now(6), 20);
        Due.due("hour stays", x.now(0), 0);
    }

    private static void odds() {
        GutterRights x = new GutterRights();
        long[][] due = {
            {50, 2, 1, 4}, {25, 3, 27, 64}, {0, 9, 1, 1}, {0, 0, 1, 1}, {99, 9, 1, 1000000000000000000L},
            {98, 2, 1, 2500}, {100, 1, 0, 1}, {100, 9, 0, 1}, {100, 0, 1, 1}, {10, 1, 9, 10}, {1, 1, 99, 100},
            {37, 0, 1, 1}, {40, 4, 81, 625}, {80, 9, 1, 1953125}, {1, 9, 913517247483640899L, 1000000000000000000L},
        };
        for (long[] d : due) {
            String call = "odds(" + d[0] + ", " + d[1] + ", ";
            Due.due(call + "0)", x.odds((int) d[0], (int) d[1], 0), d[2]);
            Due.due(call + "1)", x.odds((int) d[0], (int) d[1], 1), d[3]);
        }
        Due.due("odds(-1, 0, 0)", x.odds(-1, 0, 0), Due.BEYOND);
        Due.due("odds(101, 0, 0)", x.odds(101, 0, 0), Due.BEYOND);
        Due.due("odds(0, -1, 0)", x.odds(0, -1, 0), Due.BEYOND);
        Due.due("odds(0, 10, 0)", x.odds(0, 10, 0), Due.BEYOND);
        Due.due("odds(0, 0, -1)", x.odds(0, 0, -1), Due.BEYOND);
        Due.due("odds(0, 0, 2)", x.odds(0, 0, 2), Due.BEYOND);
        Due.due("status(0)", x.status(0), 6);
    }

    private static void seed() {
        GutterRights x = new GutterRights();
        Due.due("seed(-1000001)", x.seed(-1000001), 1);
        Due.due("count(6)", x.count(6), -1000001);
        Due.due("seed(min)", x.seed(Integer.MIN_VALUE), -1000001);
        Due.due("seed(7)", x.seed(7), Integer.MIN_VALUE);
        Due.due("no finding", x.status(-1), 0);
    }
}
