/** Promises 29 to 31: feed, wipe, text. */
public final class TextsTest {

    public static void main(String[] args) {
        feed();
        wipe();
        whatTextsTell();
        itemByItem();
        faults();
        faultChangesNothing();
        longest();
        Due.end();
    }

    private static void feed() {
        GutterRights x = new GutterRights();
        Due.due("feed(.., 0)", x.feed(1, 0), Due.BEYOND);
        Due.due("feed(.., 5)", x.feed(1, 5), Due.BEYOND);
        Due.due("feed(.., -1)", x.feed(1, -1), Due.BEYOND);
        Due.due("feed rain", x.feed('r' << 24 | 'a' << 16 | 'i' << 8 | 'n', 4), 4);
        Due.due("feed the lowest", x.feed('x' << 24 | ' ' << 16 | '1' << 8 | '2', 3), 7);
        Due.due("feed 3", x.feed(0xFFFFFF00 | '3', 1), 8);
        Due.due("count(5)", x.count(5), 8);
        Due.due("text", x.text(), 1);
        Due.due("rain 123", x.now(6), 123);
        Due.due("empty then", x.count(5), 0);
        Due.due("a shorter text", Due.text(x, "rain 4"), 1);
        Due.due("rain 4, without what was behind it", x.now(6), 4);
        for (int i = 1; i <= 29; i++) {
            Due.due("feed 4", x.feed(0x20202020, 4), 4 * i);
        }
        Due.due("feed 2", x.feed(0, 2), 118);
        Due.due("feed 4, full", x.feed(0, 4), Due.FULL);
        Due.due("feed 3, full", x.feed(0, 3), Due.FULL);
        Due.due("feed 5 is BEYOND first", x.feed(0, 5), Due.BEYOND);
        Due.due("full leaves it", x.count(5), 118);
        Due.due("feed 2, fits", x.feed(0, 2), 120);
        Due.due("feed 1, full", x.feed(0, 1), Due.FULL);
        Due.due("status(1)", x.status(1), 3);
        Due.due("status(0)", x.status(0), 4);
    }

    private static void wipe() {
        GutterRights x = new GutterRights();
        Due.due("wipe nothing", x.wipe(), 0);
        Due.feed(x, "house 1 has 3");
        Due.due("wipe", x.wipe(), 13);
        Due.due("count(5)", x.count(5), 0);
        Due.due("text of nothing", x.text(), -1);
        Due.due("nothing told", x.of(1, 1), 0);
    }

    private static void whatTextsTell() {
        String[] kinds = {"house", "font", "dyer", "brewery", "duel", "mossy", "invalid"};
        GutterRights x = new GutterRights();
        for (int kind = 0; kind < 7; kind++) {
            x.change(kind, 0, (kind + 1) % 7);
            Due.due(kinds[kind], Due.text(x, kinds[kind] + " " + kind), 1);
            Due.due(kinds[kind] + " is of", x.of(kind, 0), kind);
            Due.due(kinds[kind] + " keeps water", x.of(kind, 1), 0);
            Due.due(kinds[kind] + " keeps need", x.of(kind, 2), 2);
            Due.due(kinds[kind] + " keeps holds", x.of(kind, 3), 10);
        }
        Due.due("all parts", Due.text(x, "dyer 10 has 9999 needs 99 holds 999 right"), 1);
        row(x, 10, 2, 9999, 99, 999, 1);
        Due.due("all parts, no blanks", Due.text(x, "font10has0needs0holds0left;rain0"), 2);
        row(x, 10, 1, 0, 0, 0, 0);
        Due.due("rain 0", x.now(6), 0);
        Due.due("TOKENS without blanks", Due.text(x, "mossy3has9needs8holds7right"), 1);
        row(x, 3, 5, 9, 8, 7, 1);
        Due.due("TOKENS with many blanks", Due.text(x, "   mossy   3   has   0   needs   2   left   "), 1);
        row(x, 3, 5, 0, 2, 7, 0);
        Due.due("some parts", Due.text(x, "  mossy 0003   holds 00000000000000000012 right ;  rain 999 "), 2);
        row(x, 3, 5, 0, 2, 12, 1);
        Due.due("rain 999", x.now(6), 999);
        Due.due("needs alone", Due.text(x, "mossy 3 needs 5"), 1);
        row(x, 3, 5, 0, 5, 12, 1);
        Due.due("left alone", Due.text(x, "invalid 3 left"), 1);
        row(x, 3, 6, 0, 5, 12, 0);
        x.change(3, 5, 7);
        Due.due("has, holds", Due.text(x, "house 3 has 1 holds 2"), 1);
        row(x, 3, 0, 1, 5, 2, 0);
        Due.due("DRY stays", x.of(3, 5), 7);
        Due.due("no finding", x.status(-1), 0);
    }

    private static void row(GutterRights x, int house, int... due) {
        for (int what = 0; what < due.length; what++) {
            Due.due("of(" + house + ", " + what + ")", x.of(house, what), due[what]);
        }
    }

    private static void itemByItem() {
        GutterRights x = new GutterRights();
        Due.due("three on one", Due.text(x, "font 1 has 3 right;rain 4;dyer 1 needs 7;rain 5"), 4);
        row(x, 1, 2, 3, 7, 10, 1);
        Due.due("rain", x.now(6), 5);
    }

    private static void faults() {
        fault("", 0);
        fault("   ", 3);
        fault(";", 0);
        fault("house", 5);
        fault("house  ", 7);
        fault("house x", 6);
        fault("house ;", 6);
        fault("house 11", 6);
        fault("house 10 has", 12);
        fault("house 10 has ", 13);
        fault("house 10 has 10000", 13);
        fault("house 10 has 99999999999999999999 left", 13);
        fault("house 10 has has", 13);
        fault("house 1 needs 100", 14);
        fault("house 1 holds 1000", 14);
        fault("house 1 holds 1 needs 1", 16);
        fault("house 1 has 1 has 1", 14);
        fault("house 1 left right", 13);
        fault("house 1 right left", 14);
        fault("house 1 left has 3", 13);
        fault("house 1 2", 8);
        fault("house 1 rain 2", 8);
        fault("house 1 house 2", 8);
        fault("house 1;", 8);
        fault("house 1; ", 9);
        fault("house 1;;house 2", 8);
        fault("house 1 lefty", 8);
        fault("house1leftright2", 6);
        fault("houses 1", 0);
        fault("hous 1", 0);
        fault("mouse 1", 0);
        fault("gain 1", 0);
        fault("rait 1", 0);
        fault("house 1 heft", 8);
        fault("House 1", 0);
        fault("houSe 1", 0);
        fault("house 1 has 3,", 13);
        fault("house -1", 6);
        fault("house 1.", 7);
        fault("house\t1", 5);
        fault("house\n1", 5);
        fault("rain", 4);
        fault("rain 1000", 5);
        fault("rain x", 5);
        fault("rain 5 has 3", 7);
        fault("rain 5 6", 7);
        fault("rain 5 left", 7);
        fault("has 5", 0);
        fault("left", 0);
        fault("7", 0);
        fault("rain 5; 7", 8);
        fault("rain 5;rain", 11);
        fault("rain 5;house 1 has 3;dyer 12", 26);
        fault("rain 5" + (char) 225, 6);
        fault("rain" + (char) 0 + "5", 4);
        tokensAsLongAsCanBe();
        fault("house 1 `", 8);
        fault("house 1 {", 8);
        fault("house 1 /", 8);
        fault("house 1 :", 8);
    }

    /** "TOKENS, each as long as can be: WORDS (letters a to z), NUMBERS (digits ..)": no less, and no more. */
    private static void tokensAsLongAsCanBe() {
        fault("housez 1", 0);
        fault("housea 1", 0);
        fault("house`1", 5);
        fault("house{1", 5);
        fault("house@1", 5);
        fault("rain 5/", 6);
        fault("rain 5:", 6);
        fault("rain 1/1", 6);
        fault("rain 1:1", 6);
        fault("rain 0005a", 9);
        fault("rain 10000", 5);
        fault("rain 9999", 5);
        fault("house 1 has 99999", 12);
        fault("house 1 0", 8);
        fault("house 1 h as 3", 8);
        fault("house 1 has 3 4", 14);
        fault("ra in 5", 0);
    }

    private static void fault(String text, int place) {
        GutterRights x = new GutterRights();
        String was = Due.stateOf(x);
        int findings = x.status(-1);
        Due.due("text \"" + text + "\"", Due.text(x, text), -1 - place);
        Due.due("no finding of \"" + text + "\"", x.status(-1), findings);
        Due.due("state behind \"" + text + "\"", Due.stateOf(x), was);
    }

    private static void faultChangesNothing() {
        GutterRights x = new GutterRights();
        Due.text(x, "font 1 has 3 needs 4 holds 5 right;rain 6");
        x.hold(2, 1);
        x.go(3);
        String was = Due.stateOf(x);
        Due.due("a late fault", Due.text(x, "dyer 1 has 30 needs 40 holds 50 left;rain 60;house 2 has x"), -1 - 57);
        Due.due("nothing changes", Due.stateOf(x), was);
        Due.due("the tape is empty", x.count(5), 0);
        Due.due("a text then", Due.text(x, "rain 7"), 1);
        Due.due("rain", x.now(6), 7);
    }

    private static void longest() {
        GutterRights x = new GutterRights();
        StringBuilder text = new StringBuilder("rain 1");
        while (text.length() + 6 <= 120) {
            text.append(text.length() + 6 == 120 ? ";rain9" : ";rain1");
        }
        Due.due("length", text.length(), 120);
        Due.due("twenty items", Due.text(x, text.toString()), 20);
        Due.due("rain as the last item tells", x.now(6), 9);
        StringBuilder digits = new StringBuilder("rain ");
        while (digits.length() < 119) {
            digits.append('0');
        }
        Due.due("a long number", Due.text(x, digits.append('9').toString()), 1);
        Due.due("rain 9", x.now(6), 9);
    }
}
