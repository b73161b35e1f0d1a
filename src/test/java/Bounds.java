import java.util.function.Supplier;

/** What the tests of bounds share: what is taken, what is refused, and that a refusal changes nothing. */
final class Bounds {

    /** A call, or a run of them, whose last answer counts. */
    interface Act {
        long on(GutterRights x);
    }

    /** A call with one number that may be out of bounds. */
    interface ActWith {
        long on(GutterRights x, int v);
    }

    private Bounds() {
    }

    /** A quarter of which all is other than at first; sheet 3 is MISSING, SPOTS 2 to 9 hold nothing. */
    static GutterRights busy() {
        GutterRights x = new GutterRights();
        x.hold(2, 7);
        x.image();
        x.hold(2, -1);
        for (int house = 0; house < 11; house++) {
            x.change(house, 0, house % 7);
            x.change(house, 1, 30 + house);
            x.change(house, 5, house * 2);
        }
        x.change(3, 2, 5);
        x.change(4, 3, 7);
        x.rain(45);
        x.spouts(1028);
        x.seed(77);
        x.showers(2);
        x.pour(8, 9999);
        x.hold(0, 1);
        x.hold(1, 10);
        Due.sheet(x, 0, 8, 3, 4, 5);
        Due.sheet(x, 1, 16, 1, 3, 99, 7);
        x.sheet(2, 32, 0);
        Due.feed(x, "font 9 has 3;rain 7 ");
        return x;
    }

    /**
     * A call is refused with its finding, which is counted once, and nothing else is changed: what is
     * asked then is answered as by an object to which the call never came.
     */
    static void refused(String call, int finding, Act act) {
        refused(call, finding, Bounds::busy, act);
    }

    static void refused(String call, int finding, Supplier<GutterRights> setup, Act act) {
        GutterRights x = setup.get();
        GutterRights y = setup.get();
        Due.due(call, act.on(x), finding);
        for (int which = -1; which <= 6; which++) {
            int more = which == -1 || which == Due.BEYOND - finding ? 1 : 0;
            Due.due(call + ", then status(" + which + ")", x.status(which), y.status(which) + more);
        }
        Due.due(call + ", then all", transcript(x), transcript(y));
    }

    /** A call tells no BEYOND. */
    static void taken(String call, Act act) {
        GutterRights x = busy();
        int was = x.status(0);
        act.on(x);
        Due.due(call + " is not BEYOND", x.status(0), was);
    }

    /** From low to high is taken; what is right beyond, or far away, is BEYOND. */
    static void range(String call, int low, int high, ActWith act) {
        range(call, low, high, Due.BEYOND, act);
    }

    /** As range, but what is below answers another finding. */
    static void range(String call, int low, int high, int below, ActWith act) {
        taken(call + " with " + low, x -> act.on(x, low));
        taken(call + " with " + high, x -> act.on(x, high));
        refused(call + " with " + (low - 1), below, x -> act.on(x, low - 1));
        refused(call + " with " + (high + 1), Due.BEYOND, x -> act.on(x, high + 1));
        refused(call + " with the least int", below, x -> act.on(x, Integer.MIN_VALUE));
        refused(call + " with the greatest int", Due.BEYOND, x -> act.on(x, Integer.MAX_VALUE));
    }

    /** All that an object answers, with what it kept and what is on THE TAPE; it is used up by that. */
    static String transcript(GutterRights x) {
        StringBuilder all = new StringBuilder();
        houses(x, all);
        for (int s = 0; s < 4; s++) {
            all.append(" sheet ").append(s).append(' ').append(x.judge(s));
        }
        for (int s = 0; s < 3; s++) {
            for (int bits = 8; bits <= 32; bits *= 2) {
                x.sheet(3, bits, 0);
                all.append(' ').append(x.copy(s, 0, 3, 0, 0));
            }
            all.append(Due.numbersOf(x, s));
        }
        all.append(" text ").append(x.text());
        houses(x, all);
        all.append(" showers ").append(x.showers(1));
        houses(x, all);
        all.append(" undo ").append(x.undo());
        houses(x, all);
        return all.append(" tear ").append(x.tear()).toString();
    }

    private static void houses(GutterRights x, StringBuilder all) {
        all.append(" houses ");
        for (int house = 0; house < 11; house++) {
            for (int what = 0; what < 6; what++) {
                all.append(' ').append(x.of(house, what));
            }
        }
        for (int what = 0; what < 4; what++) {
            all.append(" now ").append(x.now(what));
        }
        all.append(" rain ").append(x.now(6)).append(" tape ").append(x.count(5)).append(" z ").append(x.count(6));
        for (int spot = 0; spot < 3; spot++) {
            all.append(" spot ").append(x.as(spot, 0));
        }
        all.append(" spots ").append(x.count(7));
    }
}
