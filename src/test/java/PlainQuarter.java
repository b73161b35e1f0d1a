/**
 * The document's HOUR and what is asked of HOURS to come, written in the slowest and plainest way, from
 * what an object's of() and now() tell: the tests hold the answers of the class against it.
 */
final class PlainQuarter {
    final int[] kind = new int[11];
    final int[] water = new int[11];
    final int[] need = new int[11];
    final int[] holds = new int[11];
    final int[] spout = new int[11];
    final int[] dried = new int[11];
    int hour;
    int rain;
    int alley;
    int lost;
    /** Which HOUSES were DRY in the latest HOUR. */
    int dryNow;

    static PlainQuarter atFirst() {
        PlainQuarter q = new PlainQuarter();
        java.util.Arrays.fill(q.need, 2);
        java.util.Arrays.fill(q.holds, 10);
        q.rain = 20;
        return q;
    }

    static PlainQuarter of(GutterRights x) {
        PlainQuarter q = new PlainQuarter();
        for (int i = 0; i < 11; i++) {
            q.kind[i] = x.of(i, 0);
            q.water[i] = x.of(i, 1);
            q.need[i] = x.of(i, 2);
            q.holds[i] = x.of(i, 3);
            q.spout[i] = x.of(i, 4);
            q.dried[i] = x.of(i, 5);
        }
        q.hour = x.now(0);
        q.alley = x.now(2);
        q.lost = x.now(3);
        q.rain = x.now(6);
        return q;
    }

    PlainQuarter again() {
        PlainQuarter q = new PlainQuarter();
        for (int i = 0; i < 11; i++) {
            q.kind[i] = kind[i];
            q.water[i] = water[i];
            q.need[i] = need[i];
            q.holds[i] = holds[i];
            q.spout[i] = spout[i];
            q.dried[i] = dried[i];
        }
        q.hour = hour;
        q.alley = alley;
        q.lost = lost;
        q.rain = rain;
        return q;
    }

    int uses(int i) {
        return uses(kind[i], need[i]);
    }

    private int uses(int k, int needed) {
        if (k == 1) {
            return hour % 2 == 0 ? uses(0, needed) : 0;
        }
        if (k == 6) {
            return uses(1, needed) + 1;
        }
        if (k == 2) {
            return 2 * uses(0, needed);
        }
        if (k == 3) {
            return Math.max(0, uses(2, needed) - 3);
        }
        if (k == 4) {
            return hour % 6 == 5 ? uses(3, needed) : 0;
        }
        return needed;
    }

    int keeps(int i) {
        int[] byKind = {holds[i], holds[i], holds[i] / 2, holds[i] / 2 + need[i], holds[i] / 2 + need[i],
            holds[i], holds[i] + 10};
        return byKind[kind[i]];
    }

    int loses(int i) {
        return new int[] {0, 0, 1, 1, 1, 5, 0}[kind[i]];
    }

    void pour(int i, int v) {
        water[i] += v;
        spill(i);
    }

    private void spill(int i) {
        if (water[i] > 9999) {
            lost = Math.min(999999, lost + water[i] - 9999);
            water[i] = 9999;
        }
    }

    void goAnHour() {
        dryNow = 0;
        pour(0, rain);
        for (int i = 0; i < 11; i++) {
            if (water[i] < uses(i)) {
                water[i] = 0;
                dried[i] = Math.min(9999, dried[i] + 1);
                dryNow |= 1 << i;
            } else {
                water[i] -= uses(i);
            }
        }
        int[] letGo = new int[11];
        for (int i = 0; i < 11; i++) {
            letGo[i] = Math.max(0, water[i] - keeps(i));
            water[i] -= letGo[i];
        }
        for (int i = 0; i < 11; i++) {
            int losing = Math.min(letGo[i], loses(i));
            lost = Math.min(999999, lost + losing);
            int to = spout[i] == 0 ? i + 1 : i + 2;
            if (to > 10) {
                alley = Math.min(999999, alley + letGo[i] - losing);
            } else {
                water[to] += letGo[i] - losing;
            }
        }
        for (int i = 0; i < 11; i++) {
            spill(i);
        }
        hour = Math.min(99999, hour + 1);
    }

    PlainQuarter behind(int n) {
        PlainQuarter q = again();
        for (int h = 0; h < n; h++) {
            q.goAnHour();
        }
        return q;
    }

    PlainQuarter turned(int houses) {
        PlainQuarter q = again();
        for (int i = 0; i < 11; i++) {
            if ((houses & 1 << i) != 0) {
                q.spout[i] = 1 - spout[i];
            }
        }
        return q;
    }

    int dry(int n) {
        PlainQuarter q = again();
        int set = 0;
        for (int h = 0; h < n; h++) {
            q.goAnHour();
            set |= q.dryNow;
        }
        return set;
    }

    boolean isDry(int house, int n) {
        return (dry(n) & 1 << house) != 0;
    }

    int when(int house, int v) {
        for (int h = 0; h <= 100; h++) {
            if (behind(h).water[house] >= v) {
                return h;
            }
        }
        return Due.NONE;
    }

    int settles() {
        for (int h = 0; h <= 100; h++) {
            if (java.util.Arrays.equals(behind(h).water, behind(h + 1).water)) {
                return h;
            }
        }
        return Due.NONE;
    }

    int rainFor(int house, int n) {
        for (int v = 0; v <= 999; v++) {
            PlainQuarter q = again();
            q.rain = v;
            if (!q.isDry(house, n)) {
                return v;
            }
        }
        return Due.NONE;
    }

    int holdsFor(int house, int n) {
        for (int v = 0; v <= 200; v++) {
            PlainQuarter q = again();
            q.holds[house] = v;
            if (!q.isDry(house, n)) {
                return v;
            }
        }
        return Due.NONE;
    }

    int needFor(int house, int n) {
        for (int v = 99; v >= 0; v--) {
            PlainQuarter q = again();
            q.need[house] = v;
            if (!q.isDry(house, n)) {
                return v;
            }
        }
        return Due.NONE;
    }

    PlainQuarter as(int house, int k) {
        PlainQuarter q = again();
        q.kind[house] = k;
        return q;
    }

    int kindsFor(int house, int n) {
        int set = 0;
        for (int k = 0; k < 7; k++) {
            set |= as(house, k).isDry(house, n) ? 0 : 1 << k;
        }
        return set;
    }

    int kindFor(int house, int n) {
        int best = 0;
        for (int k = 1; k < 7; k++) {
            if (as(house, k).behind(n).alley > as(house, best).behind(n).alley) {
                best = k;
            }
        }
        return best;
    }

    int turn(int houses, int n) {
        int best = Due.NONE;
        for (int set = 0; set < 2048; set++) {
            boolean isBetter = best == Due.NONE || Integer.bitCount(set) < Integer.bitCount(best);
            if (isBetter && (turned(set).dry(n) & houses) == 0) {
                best = set;
            }
        }
        return best;
    }

    int best(int n) {
        int best = 0;
        for (int i = 1; i < 11; i++) {
            if (Integer.bitCount(turned(1 << i).dry(n)) < Integer.bitCount(turned(1 << best).dry(n))) {
                best = i;
            }
        }
        return best;
    }

    int love(int house, int n) {
        int best = 0;
        for (int i = 1; i < 11; i++) {
            if (turned(1 << i).behind(n).water[house] > turned(1 << best).behind(n).water[house]) {
                best = i;
            }
        }
        return best;
    }

    int burst(int house, int v, int n) {
        PlainQuarter q = again();
        q.pour(house, v);
        return q.behind(n).alley - behind(n).alley;
    }

    boolean isAsSeen(int house, int[] seen) {
        for (int h = 0; h < seen.length; h++) {
            if (seen[h] != -1 && behind(h).water[house] != seen[h]) {
                return false;
            }
        }
        return true;
    }
}
