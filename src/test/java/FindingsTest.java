/** Terms: a call that answers a finding changes nothing but status(), which counts it once. */
public final class FindingsTest {

    /** Numbers that are wrong, or at an edge, for one argument or another. */
    private static final int[] EDGES = {Integer.MIN_VALUE, -2, -1, 0, 1, 5, 8, 11, 12, 13, 21, 41, 61, 101, 1000, 2048,
        10000, Integer.MAX_VALUE};

    private static final String STATE = Due.stateOf(quarter());

    public static void main(String[] args) {
        for (int call = 0; call < 39; call++) {
            for (int a : EDGES) {
                for (int b : EDGES) {
                    check(call, a, b);
                }
            }
        }
        Due.end();
    }

    private static void check(int call, int a, int b) {
        GutterRights x = quarter();
        long answer = answer(x, call, a, b);
        boolean isFinding = answer <= Due.BEYOND && answer >= Due.SIZE;
        String name = "call " + call + " with " + a + ", " + b;
        Due.due(name + ": findings", x.status(-1), isFinding ? 1 : 0);
        if (isFinding) {
            Due.due(name + ": its finding", x.status((int) (Due.BEYOND - answer)), 1);
            Due.due(name + ": state", Due.stateOf(x), STATE);
            Due.due(name + ": what is kept", x.undo(), 0);
        }
    }

    private static GutterRights quarter() {
        GutterRights x = new GutterRights();
        x.image();
        Due.text(x, "brewery 1 has 50 needs 4 right;font 9 has 9999;rain 70");
        Due.sheet(x, 0, 8, 3, 4, 5);
        Due.sheet(x, 1, 16, 1, 3);
        x.hold(0, 1);
        x.hold(5, 9);
        x.pour(9, 5);
        x.showers(2);
        Due.feed(x, "rain 3");
        for (int i = 0; i < 28; i++) {
            x.feed(' ', 4);
        }
        return x;
    }

    private static long answer(GutterRights x, int call, int a, int b) {
        switch (call) {
            case 0: return x.change(a, 1, b);
            case 1: return x.change(1, a, b);
            case 2: return x.of(a, b);
            case 3: return x.rain(a);
            case 4: return x.spouts(a);
            case 5: return x.pour(a, b);
            case 6: return x.go(a);
            case 7: return x.now(a);
            case 8: return x.ahead(a, 1, b);
            case 9: return x.ahead(1, a, b);
            case 10: return x.alley(a);
            case 11: return x.dry(a);
            case 12: return x.when(a, b);
            case 13: return x.below(a);
            case 14: return x.rainFor(a, b);
            case 15: return x.holdsFor(a, b);
            case 16: return x.needFor(a, b);
            case 17: return x.kindsFor(a, b);
            case 18: return x.kindFor(a, b);
            case 19: return x.turn(a, b);
            case 20: return x.best(a);
            case 21: return x.love(a, b);
            case 22: return x.burst(a, b, 3);
            case 23: return x.turned(a, b);
            case 24: return x.kinds(a, b);
            case 25: return x.showers(a);
            case 26: return x.odds(a, b, 1);
            case 27: return x.feed(a, b);
            case 28: return x.hold(a, b);
            case 29: return x.as(a, b);
            case 30: return x.sheet(a & 1, b, a);
            case 31: return x.write(0, a, b);
            case 32: return x.copy(0, a, 0, b, 1);
            case 33: return x.copy(a, 0, b, 0, 1);
            case 34: return x.write(a, 0, b);
            case 35: return x.load(a);
            case 36: return x.judge(a);
            case 37: return x.count(a);
            default: return x.status(a);
        }
    }
}
