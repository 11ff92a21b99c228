/** Part 5 of the terms, and promises 20 and 21, by the sentences that name a boundary. */
public final class WindsEdgesTest {
    private static final Check check = new Check();

    public static void main(String[] args) {
        eachWind();
        leastOfSeveral();
        yieldOfAll();
        windStays();
        withoutShots();
        eachAlone();
        allWereFired();
        asManyCells();
        gotAlone();
        cellsOfSorts();
        missedWithoutPlain();
        check.end();
    }

    private static void eachWind() {
        check.says("BEST WIND: WIND -3 .. 3 by which YIELD of all is the greatest");
        for (int wind = -3; wind <= 3; wind++) {
            RainAccount r = Check.with("099;199");
            r.cloud(-6 * wind, 4, 1);
            r.shot(0, 0, 6, 4);
            for (int now = -3; now <= 3; now++) {
                r.set(0, now);
                check.due("bestWind(0) for " + wind, r.bestWind(0), wind + 10);
                check.due("bestWind(1) for " + wind, r.bestWind(1), 36);
                check.due("harvest by " + now, r.harvest(-1), now == wind ? 36 : 0);
            }
        }
        RainAccount beyond = Check.with("099;199");
        beyond.cloud(-20, 9, 1);
        beyond.cloud(16, 2, 1);
        beyond.shot(0, 0, 5, 9);
        beyond.shot(0, 0, 4, 2);
        check.due("4 would be better, and can't be", beyond.bestWind(0), 7);
        check.due("what falls by none", beyond.bestWind(1), 0);
        beyond.shot(0, 0, 8, 2);
        check.due("-2 brings 2", beyond.bestWind(0), 8);
        check.due("what falls by -2", beyond.bestWind(1), 18);
    }

    private static void leastOfSeveral() {
        check.says("of several the least");
        for (int least = -3; least <= 3; least++) {
            RainAccount r = Check.with("099;199");
            for (int wind = Math.max(least, -1); wind <= 3 && wind < least + 6; wind++) {
                r.cloud(-6 * wind, 4, 1);
            }
            if (least < -1) {
                r.cloud(-6 * least, 4, 1);
            }
            r.shot(0, 0, 6, 4);
            check.due("the least is " + least, r.bestWind(0), least + 10);
            check.due("its yield", r.bestWind(1), 36);
        }
        RainAccount alike = Check.with("099;199");
        check.due("nothing falls by any", alike.bestWind(0), 7);
        check.due("nothing", alike.bestWind(1), 0);
        alike.set(0, 3);
        alike.cloud(0, 9, 1);
        alike.shot(0, 0, 0, 9);
        check.due("the same falls by any", alike.bestWind(0), 7);
        check.due("the same", alike.bestWind(1), 81);
    }

    private static void yieldOfAll() {
        check.says("YIELD of all by it (1)");
        RainAccount r = Check.with("099;191");
        r.set(1, 5);
        r.cloud(-2, 30, 5);
        r.cloud(1, 9, 6);
        // By wind 0 nothing is above a field; by 1 it drips in hours 2 and 3, by 2 in hour 1, by 3 in hour 1.
        check.due("wind 1: 9 and 1", r.bestWind(0), 11);
        check.due("9 and 1", r.bestWind(1), 10);
        r.set(1, 0);
        check.due("low 0", r.bestWind(1), 0);
        r.set(2, 4095);
        r.shot(0, 1, 0, 9);
        check.due("what is forbidden is fired, too", r.bestWind(1), 9);
    }

    private static void windStays() {
        check.says("OUTSIDE; STATE: there is no PLAIN.");
        RainAccount r = Scene.FULL.make(Scene.SIZE);
        r.bestWind(0);
        r.bestWind(1);
        check.same("bestWind", Sight.of(r), Sight.of(Scene.FULL.make(Scene.SIZE)));
        check.due("what 2", r.bestWind(2), -2);
        check.due("what -1", r.bestWind(-1), -2);
        check.due("bare", new RainAccount().bestWind(0), -3);
        check.due("bare", new RainAccount().bestWind(1), -3);
        check.due("bare, what 2", new RainAccount().bestWind(2), -2);
    }

    private static int missed(RainAccount r, int... got) {
        Check.write(r, 0, 2, got);
        return r.missed(0, 2, 0);
    }

    private static void withoutShots() {
        check.says("bit 8: all were fired");
        RainAccount r = Check.with("099;199");
        check.due("no shots: all of them were", missed(r, 0, 0), 1 << 8);
        check.due("something else fell", missed(r, 0, 1), 0);
        r.set(1, 1);
        r.cloud(1, 7, 1);
        check.due("7 dripped", missed(r, 0, 7), 1 << 8);
        check.due("not 6", missed(r, 0, 6), 0);
        check.due("not 7 elsewhere", missed(r, 7, 0), 0);
    }

    private static RainAccount eight() {
        RainAccount r = Check.with("099;199;099;199;099;199;099;199");
        for (int c = 0; c < 4; c++) {
            r.cloud(2 * c, 30, 1);
        }
        for (int s = 0; s < 8; s++) {
            r.shot(0, 2 * (s % 4), s, 1 + s);
        }
        return r;
    }

    private static void eachAlone() {
        check.says("which SHOTS, each alone, were not fired, if it were so (bit k for SHOT k; bit 8: all were fired)");
        RainAccount r = eight();
        check.due("all", missed(r, 6, 0, 8, 0, 10, 0, 12, 0), 1 << 8);
        for (int s = 0; s < 8; s++) {
            int[] got = {6, 0, 8, 0, 10, 0, 12, 0};
            got[2 * (s % 4)] -= 1 + s;
            check.due("but " + s, missed(r, got), 1 << s);
        }
        check.due("but 0 and 1", missed(r, 5, 0, 6, 0, 10, 0, 12, 0), 0);
        check.due("none", missed(r, 0, 0, 0, 0, 0, 0, 0, 0), 0);
    }

    private static void allWereFired() {
        check.says("bit 8: all were fired");
        RainAccount r = Check.with("099;199");
        for (int s = 0; s < 8; s++) {
            r.shot(0, 1, s, 9);
            check.due("they all do nothing", missed(r, 0, 0), 1 << 8 | (1 << s + 1) - 1);
        }
        RainAccount one = Check.with("099;199");
        one.cloud(0, 5, 1);
        one.shot(0, 0, 0, 5);
        one.shot(0, 0, 1, 5);
        check.due("either would do, or both", missed(one, 5, 0), 3 | 1 << 8);
        check.due("none of both", missed(one, 0, 0), 0);
    }

    private static void asManyCells() {
        check.says("MISSED, by such cells, as many as there are FIELDS: a set.");
        RainAccount r = eight();
        int[] got = {7, 6, 0, 8, 0, 10, 0, 12, 0, 7};
        Check.write(r, 0, 2, got);
        check.due("from cell 1 on", r.missed(0, 2, 1), 1 << 8);
        check.due("from cell 0 on", r.missed(0, 2, 0), 0);
        check.due("from cell 2 on", r.missed(0, 2, 2), 0);
        check.due("from cell 3 on", r.missed(0, 2, 3), -13);
        check.due("fault()", r.fault(), 3);
        check.due("from cell 10 on", r.missed(0, 2, 10), -13);
        check.due("from cell -1 on", r.missed(0, 2, -1), -13);
        for (int f = 0; f < 8; f++) {
            r.put(0, 1 + f, got[1 + f] + 100);
            check.due("field " + f + " got otherwise", r.missed(0, 2, 1), 0);
            r.put(0, 1 + f, got[1 + f]);
        }
        check.due("all is as it was", r.missed(0, 2, 1), 1 << 8);
        check.due("fault()", r.fault(), 0);
    }

    private static void gotAlone() {
        check.says("MISSED: by what FIELDS GOT, told in a row");
        RainAccount r = Check.with("099;199");
        r.cloud(0, 3, 1);
        r.shot(2, 0, 0, 3);
        r.shot(0, 0, 1, 2);
        // 2 rain and 1 hail by the bomb; without it, 2 rain by the shot.
        check.due("hail is not looked at", missed(r, 2, 0), 3 | 1 << 8);
        check.due("nor counted", missed(r, 3, 0), 0);
    }

    private static void cellsOfSorts() {
        check.says("UNKNOWN: SHEET; OUTSIDE: sort; FAULTS CAST, NULL, INDEX");
        for (int sort = 0; sort < 3; sort++) {
            RainAccount r = Check.with("099;199");
            r.set(1, 1);
            r.cloud(1, 5, 1);
            Check.write(r, 1, sort, 0, 5);
            check.due("sort " + sort, r.missed(1, sort, 0), 1 << 8);
            Check.write(r, 1, sort, 0, 5 + 256);
            check.due("a byte is cut", r.missed(1, sort, 0), sort == 0 ? 1 << 8 : 0);
            Check.write(r, 1, sort, 0, 5 - 65536);
            check.due("a short is cut, too", r.missed(1, sort, 0), sort < 2 ? 1 << 8 : 0);
            for (int other = 0; other < 3; other++) {
                check.due("as sort " + other, r.missed(1, other, 3), other == sort ? -13 : -12);
            }
            check.due("nothing", r.missed(0, sort, 0), -11);
        }
    }

    private static void missedWithoutPlain() {
        check.says("INDEX (without a PLAIN: of no cells); STATE: there is no PLAIN.");
        RainAccount r = new RainAccount();
        for (int n = 0; n <= 40; n += 20) {
            r.sheet(0, 2, n);
            check.due("from " + n + " on: none", r.missed(0, 2, n), -3);
            check.due("fault()", r.fault(), 0);
            check.due("from " + (n + 1) + " on", r.missed(0, 2, n + 1), -13);
            check.due("fault()", r.fault(), 3);
            check.due("from 0 on", r.missed(0, 2, 0), -3);
            check.due("fault()", r.fault(), 0);
            check.due("from -1 on", r.missed(0, 2, -1), -13);
            check.due("fault()", r.fault(), 3);
        }
        check.due("nothing", r.missed(1, 2, 0), -11);
        check.due("another sort", r.missed(0, 1, 0), -12);
    }
}
