import java.util.function.Supplier;

/**
 * What an act changes beside its answer: "what will be (nothing changes)", and so for all that only asks;
 * of the others, that they change no more than their words tell.
 */
public final class AsksTest {

    public static void main(String[] args) {
        housesAndHours();
        howMuchAndSpouts();
        whatWasSeenAndTheRest();
        faultOfAText();
        wipesAndSheets();
        objectsAreApart();
        Due.end();
    }

    /** The call answers no finding, and all that is asked then is answered as if it had never come. */
    private static void asks(String call, Bounds.Act act) {
        asks(call, Bounds::busy, act);
    }

    private static void asks(String call, Supplier<GutterRights> setup, Bounds.Act act) {
        GutterRights x = setup.get();
        GutterRights y = setup.get();
        int findings = x.status(-1);
        act.on(x);
        Due.due(call + ", findings", x.status(-1), findings);
        Due.due(call + " changes nothing", Bounds.transcript(x), Bounds.transcript(y));
    }

    /** As if one run of calls had come, or the other. */
    private static void same(String call, Bounds.Act one, Bounds.Act other) {
        GutterRights x = Bounds.busy();
        GutterRights y = Bounds.busy();
        one.on(x);
        other.on(y);
        Due.due(call, Bounds.transcript(x), Bounds.transcript(y));
    }

    private static void housesAndHours() {
        for (int what = 0; what < 10; what++) {
            int w = what;
            asks("of", x -> x.of(3, w));
        }
        for (int what = 0; what < 7; what++) {
            int w = what;
            asks("now", x -> x.now(w));
        }
        asks("ahead, WATER", x -> x.ahead(10, 1, 100));
        asks("ahead, DRY", x -> x.ahead(10, 5, 100));
        asks("alley", x -> x.alley(100));
        asks("dry", x -> x.dry(100));
        asks("when", x -> x.when(10, 0));
        asks("when, later", x -> x.when(0, 10));
        asks("settles", GutterRights::new, GutterRights::settles);
        asks("below", x -> x.below(0));
    }

    private static void howMuchAndSpouts() {
        asks("rainFor", x -> x.rainFor(0, 40));
        asks("holdsFor", x -> x.holdsFor(0, 40));
        asks("needFor", x -> x.needFor(0, 40));
        asks("kindsFor", x -> x.kindsFor(7, 40));
        asks("kindFor", x -> x.kindFor(7, 40));
        asks("turn", x -> x.turn(1, 12));
        asks("best", x -> x.best(40));
        asks("love", x -> x.love(10, 40));
        asks("burst", x -> x.burst(8, 9999, 40));
    }

    private static void whatWasSeenAndTheRest() {
        asks("turned", x -> x.turned(1, 3));
        asks("kinds", x -> x.kinds(1, 3));
        asks("odds", x -> x.odds(37, 5, 0));
        asks("as", x -> x.as(0, 1));
        asks("judge", x -> x.judge(0));
        asks("judge, not so", x -> x.judge(1));
        for (int what = 0; what < 8; what++) {
            int w = what;
            asks("count", x -> x.count(w));
        }
        for (int which = -1; which < 7; which++) {
            int w = which;
            asks("status", x -> x.status(w));
        }
        asks("copy of none", x -> x.copy(0, 1, 0, 2, 0));
        asks("copy to where it is", x -> x.copy(1, 0, 1, 0, 4));
        asks("change to what it is", x -> x.change(3, 2, 5));
        asks("seed and back", x -> x.seed(x.seed(5)));
        asks("rain and back", x -> x.rain(x.rain(5)));
        asks("spouts and back", x -> x.spouts(x.spouts(5)));
        asks("pour of none", x -> x.pour(3, 0));
        asks("hold as it is", x -> x.hold(0, 1));
    }

    /** Promise 31: "nothing changes but that THE TAPE is empty; no finding". */
    private static void faultOfAText() {
        same("fault", x -> x.feed(';', 1) + x.text(), GutterRights::wipe);
        same("fault behind all parts", x -> x.wipe() + Due.text(x, "dyer 3 has 5 needs 6 holds 7 left;rain 8;x"),
            GutterRights::wipe);
        same("no text", x -> x.wipe() + x.text(), GutterRights::wipe);
        asks("fault and the same again", x -> {
            x.wipe();
            Due.due("fault", Due.text(x, "rain 8 8"), -8);
            Due.feed(x, "font 9 has 3;rain 7 ");
            return 0;
        });
        same("a text", x -> x.text(), x -> x.wipe() + x.change(9, 0, 1) + x.change(9, 1, 3) + x.rain(7));
    }

    private static void wipesAndSheets() {
        asks("wipe and the same again", x -> {
            x.wipe();
            Due.feed(x, "font 9 has 3;rain 7 ");
            return 0;
        });
        asks("a sheet made and gone", x -> x.sheet(3, 16, 5) + x.write(3, 2, 7) + x.sheet(3, 0, 40));
        asks("a number and back", x -> x.write(0, 1, 99) + x.write(0, 1, 4));
        same("load changes NEEDS alone", x -> x.load(1),
            x -> x.change(0, 2, 1) + x.change(1, 2, 3) + x.change(2, 2, 99) + x.change(3, 2, 7));
        same("spouts is as change", x -> x.spouts(5), x -> x.change(0, 4, 1) + x.change(10, 4, 0));
        same("showers is as rain, seed and go", x -> x.showers(1), x -> {
            int z = x.count(6) * 1103515245 + 12345;
            x.seed(z);
            x.rain((z >>> 8) % 100);
            return x.go(1);
        });
        same("go(3) is as three HOURS", x -> x.go(3), x -> x.go(1) + x.go(1) + x.go(1));
        same("image is as the latest alone", x -> x.image(), x -> x.tear() + x.image());
        same("the latest image counts", x -> x.rain(x.rain(7) + x.image() - 1) + x.image(), x -> x.image());
    }

    private static void objectsAreApart() {
        GutterRights x = Bounds.busy();
        GutterRights y = new GutterRights();
        GutterRights z = new GutterRights();
        x.go(3);
        Bounds.transcript(x);
        Due.due("a new object beside a busy one", Bounds.transcript(y), Bounds.transcript(z));
    }
}
