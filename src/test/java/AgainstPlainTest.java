import java.util.Random;

/** Promises 2 to 25 on quarters made by chance (always the same), held against PlainQuarter. */
public final class AgainstPlainTest {

    public static void main(String[] args) {
        Random chance = new Random(20261118);
        for (int round = 0; round < 150; round++) {
            hours(round, someQuarter(chance), chance);
            ahead(round, someQuarter(chance), chance);
            howMuch(round, someQuarter(chance), chance);
            spouts(round, someQuarter(chance), chance);
            seen(round, 0, someQuarter(chance), chance);
            seen(round, 6, someQuarter(chance), chance);
        }
        Due.end();
    }

    private static GutterRights someQuarter(Random chance) {
        GutterRights x = new GutterRights();
        int wealth = chance.nextInt(4);
        int[] mostWater = {0, 30, 300, 10000};
        for (int house = 0; house < 11; house++) {
            x.change(house, 0, chance.nextInt(7));
            x.change(house, 1, mostWater[wealth] == 0 ? 0 : chance.nextInt(mostWater[wealth]));
            x.change(house, 2, chance.nextInt(chance.nextInt(4) == 0 ? 100 : 6));
            x.change(house, 3, chance.nextInt(chance.nextInt(4) == 0 ? 1000 : 20));
        }
        x.change(chance.nextInt(11), 5, 9990 + chance.nextInt(10));
        x.spouts(chance.nextInt(2) == 0 ? 0 : chance.nextInt(2048));
        x.rain(chance.nextInt(chance.nextInt(3) == 0 ? 1000 : 60));
        x.go(1 + chance.nextInt(6));
        return x;
    }

    private static void hours(int round, GutterRights x, Random chance) {
        PlainQuarter q = PlainQuarter.of(x);
        for (int h = 0; h < 6; h++) {
            for (int i = 0; i < 11; i++) {
                Due.due(round + ": uses of " + i, x.of(i, 6), q.uses(i));
                Due.due(round + ": keeps of " + i, x.of(i, 7), q.keeps(i));
                Due.due(round + ": loses of " + i, x.of(i, 8), q.loses(i));
            }
            x.go(1);
            q.goAnHour();
            for (int i = 0; i < 11; i++) {
                Due.due(round + ": water of " + i, x.of(i, 1), q.water[i]);
                Due.due(round + ": dry of " + i, x.of(i, 5), q.dried[i]);
            }
            Due.due(round + ": alley", x.now(2), q.alley);
            Due.due(round + ": lost", x.now(3), q.lost);
            int house = chance.nextInt(11);
            int v = chance.nextInt(40);
            q.pour(house, v);
            Due.due(round + ": pour", x.pour(house, v), q.water[house]);
        }
    }

    private static void ahead(int round, GutterRights x, Random chance) {
        PlainQuarter q = PlainQuarter.of(x);
        int[] hours = {0, 1, 100, chance.nextInt(101)};
        for (int n : hours) {
            PlainQuarter then = q.behind(n);
            for (int i = 0; i < 11; i++) {
                Due.due(round + ": ahead(" + i + ", 1, " + n + ")", x.ahead(i, 1, n), then.water[i]);
                Due.due(round + ": ahead(" + i + ", 5, " + n + ")", x.ahead(i, 5, n), then.dried[i]);
            }
            Due.due(round + ": alley(" + n + ")", x.alley(n), then.alley);
            Due.due(round + ": dry(" + n + ")", x.dry(n), q.dry(n));
        }
        for (int i = 0; i < 11; i++) {
            int v = q.behind(chance.nextInt(101)).water[i] + chance.nextInt(2);
            v = Math.min(9999, v);
            Due.due(round + ": when(" + i + ", " + v + ")", x.when(i, v), q.when(i, v));
        }
        Due.due(round + ": settles", x.settles(), q.settles());
    }

    private static void howMuch(int round, GutterRights x, Random chance) {
        PlainQuarter q = PlainQuarter.of(x);
        for (int i = 0; i < 11; i++) {
            int n = chance.nextInt(chance.nextBoolean() ? 5 : 41);
            String with = "(" + i + ", " + n + ")";
            if (i % 3 == round % 3) {
                Due.due(round + ": rainFor" + with, x.rainFor(i, n), q.rainFor(i, n));
            }
            Due.due(round + ": holdsFor" + with, x.holdsFor(i, n), q.holdsFor(i, n));
            Due.due(round + ": needFor" + with, x.needFor(i, n), q.needFor(i, n));
            Due.due(round + ": kindsFor" + with, x.kindsFor(i, n), q.kindsFor(i, n));
            Due.due(round + ": kindFor" + with, x.kindFor(i, n), q.kindFor(i, n));
        }
    }

    private static void spouts(int round, GutterRights x, Random chance) {
        PlainQuarter q = PlainQuarter.of(x);
        for (int i = 0; i < 6; i++) {
            int houses = chance.nextInt(2048) & chance.nextInt(2048);
            if (i > 1) {
                houses &= chance.nextInt(2048);
            }
            int n = chance.nextInt(i % 2 == 0 ? 13 : 4);
            Due.due(round + ": turn(" + houses + ", " + n + ")", x.turn(houses, n), q.turn(houses, n));
        }
        for (int i = 0; i < 11; i++) {
            int n = chance.nextInt(41);
            int v = chance.nextInt(chance.nextBoolean() ? 10000 : 100);
            Due.due(round + ": best(" + n + ")", x.best(n), q.best(n));
            Due.due(round + ": love(" + i + ", " + n + ")", x.love(i, n), q.love(i, n));
            Due.due(round + ": burst(" + i + ", " + v + ", " + n + ")", x.burst(i, v, n), q.burst(i, v, n));
        }
    }

    /** A sheet tells what would be with some SPOUT turned, or as some KIND, with holes. */
    private static void seen(int round, int first, GutterRights x, Random chance) {
        PlainQuarter q = PlainQuarter.of(x);
        for (int house = first; house < Math.min(11, first + 6); house++) {
            boolean byKind = chance.nextBoolean();
            PlainQuarter was = byKind ? q.as(house, chance.nextInt(7)) : q.turned(1 << chance.nextInt(11));
            int[] seen = new int[chance.nextInt(chance.nextBoolean() ? 6 : 41)];
            for (int h = 0; h < seen.length; h++) {
                seen[h] = chance.nextInt(3) == 0 ? -1 : was.behind(h).water[house];
            }
            if (seen.length > 0 && chance.nextInt(5) == 0) {
                seen[chance.nextInt(seen.length)] += chance.nextInt(3) - 1;
            }
            Due.sheet(x, 1, 32, seen);
            int turned = 0;
            for (int i = 0; i < 11; i++) {
                turned |= q.turned(1 << i).isAsSeen(house, seen) ? 1 << i : 0;
            }
            int kinds = 0;
            for (int k = 0; k < 7; k++) {
                kinds |= q.as(house, k).isAsSeen(house, seen) ? 1 << k : 0;
            }
            Due.due(round + ": turned(1, " + house + ")", x.turned(1, house), turned);
            Due.due(round + ": kinds(1, " + house + ")", x.kinds(1, house), kinds);
        }
    }
}
