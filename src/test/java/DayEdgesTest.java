/** Part 2 of the terms, and promises 10 to 13, by the sentences that name a boundary. */
public final class DayEdgesTest {
    private static final Check check = new Check();

    public static void main(String[] args) {
        aboveAField();
        noHigherThanLow();
        stillWet();
        rainBeforeShots();
        shotByShot();
        aboveItsField();
        noHigherThanItReaches();
        dryOnesAreLeftOut();
        lowest();
        powderOrAll();
        aThirdIsHail();
        noneThere();
        forbiddenHoursFall();
        gotWithoutHail();
        lesserOfGotAndNeed();
        lessTwoForHail();
        zeroAtLeast();
        ofClubs();
        mostOfAll();
        behindAnHour();
        byShots();
        check.end();
    }

    private static void aboveAField() {
        check.says("of each CLOUD, by number, that is above a FIELD");
        for (int at = -2; at <= 4; at++) {
            RainAccount r = Check.with("091;191;291");
            r.set(1, 9);
            r.cloud(at, 9, 1);
            for (int f = 0; f < 3; f++) {
                check.due("fell on " + f + " by a cloud at " + at, r.fell(f, 0, 0), f == at ? 1 : 0);
            }
            check.due("wet behind hour 0", r.ofCloud(0, 1, 1), at < 0 || at > 2 ? 9 : 8);
        }
        RainAccount r = Check.with("091;191;291");
        r.set(1, 9);
        r.set(0, 3);
        r.cloud(-20, 9, 1);
        r.cloud(-18, 9, 1);
        r.set(0, 2);
        check.due("-20 is above field 0 in hour 10 by wind 2", r.fell(0, 10, 0) - r.fell(0, 9, 0), 1);
        check.due("-18 was so in hour 9", r.fell(0, 9, 0), 1);
        check.due("and is above field 2 in hour 10", r.fell(2, 10, 0), 1);
        check.due("and -20 in hour 11", r.fell(2, 11, 0), 2);
        check.due("on field 1 nothing fell", r.fell(1, 11, 0), 0);
    }

    private static void noHigherThanLow() {
        check.says("no higher than LOW (0 .. 9)");
        for (int high = 1; high <= 9; high++) {
            RainAccount r = Check.with("091;191");
            r.cloud(1, 9, high);
            check.due("low 0 of a new plain", r.fell(1, 0, 0), 0);
            for (int low = 0; low <= 9; low++) {
                r.set(1, low);
                check.due("high " + high + ", low " + low, r.fell(1, 0, 0), high <= low ? 1 : 0);
            }
        }
    }

    private static void stillWet() {
        check.says("and still WET, 1 falls there");
        for (int wet : new int[] {1, 2, 11, 12, 13, 30}) {
            RainAccount r = Check.with("091;191");
            r.set(1, 1);
            r.cloud(0, wet, 1);
            for (int hour = 0; hour < 12; hour++) {
                check.due("fell of " + wet, r.fell(0, hour, 0), Math.min(wet, hour + 1));
                check.due("wet of " + wet, r.ofCloud(0, hour, 1), Math.max(0, wet - hour));
            }
        }
    }

    private static void rainBeforeShots() {
        check.says("in an HOUR, in order: of each CLOUD");
        RainAccount r = Check.with("091;191");
        r.set(1, 1);
        r.cloud(0, 1, 1);
        r.shot(0, 0, 0, 9);
        check.due("the last 1 fell by itself", r.by(0, 0), 0);
        check.due("of no cloud", r.by(0, 1), -9);
        RainAccount two = Check.with("091;191");
        two.set(1, 1);
        two.cloud(0, 2, 1);
        two.shot(0, 0, 0, 9);
        check.due("of two the second is shot", two.by(0, 0), 1);
        two.set(1, 0);
        check.due("of two both are", two.by(0, 0), 2);
    }

    private static void shotByShot() {
        check.says("then SHOT by SHOT of that HOUR, by number");
        RainAccount r = Check.with("099;199");
        r.cloud(0, 10, 1);
        r.shot(0, 0, 5, 4);
        r.shot(0, 0, 5, 9);
        r.shot(0, 0, 4, 1);
        r.shot(0, 0, 11, 9);
        r.shot(0, 0, 0, 2);
        int[] amounts = {4, 3, 1, 0, 2};
        for (int s = 0; s < 5; s++) {
            check.due("by(" + s + ", 0)", r.by(s, 0), amounts[s]);
        }
        RainAccount late = Check.with("099;199");
        late.cloud(0, 10, 1);
        late.shot(0, 0, 11, 9);
        check.due("in the last hour", late.by(0, 0), 9);
        check.due("not ahead of it", late.fell(0, 10, 0), 0);
        check.due("in it", late.fell(0, 11, 0), 9);
    }

    private static void aboveItsField() {
        check.says("of CLOUDS above its FIELD");
        for (int at = -1; at <= 3; at++) {
            RainAccount r = Check.with("099;199;299");
            r.cloud(at, 30, 1);
            for (int f = 0; f < 3; f++) {
                r.shot(0, f, 0, 2);
            }
            for (int f = 0; f < 3; f++) {
                check.due("by the shot of " + f + ", cloud at " + at, r.by(f, 0), f == at ? 2 : 0);
                check.due("of which cloud", r.by(f, 1), f == at ? 0 : -9);
            }
        }
        RainAccount drawn = Check.with("099;199;299");
        drawn.set(0, -3);
        drawn.cloud(20, 30, 1);
        for (int hour = 5; hour < 9; hour++) {
            drawn.shot(0, 2, hour, 1);
        }
        for (int s = 0; s < 4; s++) {
            check.due("above field 2 in hour 6 alone", drawn.by(s, 0), s == 1 ? 1 : 0);
        }
    }

    private static void noHigherThanItReaches() {
        check.says("no higher than it REACHES (a SHOT as high as POWDER, a ROCKET, a BOMB twice as high)");
        for (int high = 1; high <= 9; high++) {
            RainAccount r = Check.with("099;199");
            r.cloud(0, 30, high);
            for (int kind = 0; kind < 3; kind++) {
                for (int powder = 1; powder <= 9; powder++) {
                    r.shot(kind, 0, 0, powder);
                    int reach = kind == 0 ? powder : 2 * powder;
                    String call = "kind " + kind + ", powder " + powder + ", high " + high;
                    check.due(call, r.by(0, 0), high <= reach ? powder : 0);
                    r.back(1);
                }
            }
        }
    }

    private static void dryOnesAreLeftOut() {
        check.says("of CLOUDS above its FIELD that are still WET");
        RainAccount r = Check.with("099;199");
        r.cloud(0, 1, 1);
        r.cloud(0, 1, 2);
        r.shot(0, 0, 0, 9);
        r.shot(0, 0, 0, 9);
        r.shot(0, 0, 0, 9);
        check.due("the lowest", r.by(0, 1), 0);
        check.due("that is dry: the next", r.by(1, 1), 1);
        check.due("all are dry", r.by(2, 1), -9);
        check.due("nothing falls", r.by(2, 0), 0);
        check.due("one falls of one cloud alone", r.by(0, 0), 1);
    }

    private static void lowest() {
        check.says("the lowest one, of several the least number");
        RainAccount r = Check.with("099;199");
        int[] highs = {5, 3, 4, 3, 9, 2};
        for (int high : highs) {
            r.cloud(high == 2 ? 1 : 0, 3, high);
        }
        for (int s = 0; s < 6; s++) {
            r.shot(0, 0, 0, s == 0 ? 4 : 9);
        }
        int[] want = {1, 3, 2, 0, 4, -9};
        for (int s = 0; s < 6; s++) {
            check.due("of which cloud shot " + s + " is", r.by(s, 1), want[s]);
        }
    }

    private static void powderOrAll() {
        check.says("POWDER of it falls there, or all, if that is less");
        for (int powder = 1; powder <= 9; powder++) {
            for (int wet : new int[] {1, powder - 1, powder, powder + 1, 30}) {
                if (wet < 1) {
                    continue;
                }
                RainAccount r = Check.with("099;199");
                r.cloud(0, wet, 1);
                r.shot(0, 0, 3, powder);
                int falls = Math.min(wet, powder);
                check.due("powder " + powder + " of " + wet, r.by(0, 0), falls);
                check.due("fell", r.fell(0, 3, 0), falls);
                check.due("is left", r.ofCloud(0, 4, 1), wet - falls);
            }
        }
    }

    private static void aThirdIsHail() {
        check.says("of a BOMB a third of what falls (cut) is HAIL, the rest rain");
        int[] hail = {0, 0, 0, 1, 1, 1, 2, 2, 2, 3};
        for (int falls = 1; falls <= 9; falls++) {
            for (int kind = 0; kind < 3; kind++) {
                hailOf(kind, falls, 30, falls, kind == 2 ? hail[falls] : 0);
                hailOf(kind, 9, falls, falls, kind == 2 ? hail[falls] : 0);
            }
        }
    }

    private static void hailOf(int kind, int powder, int wet, int falls, int hail) {
        RainAccount r = Check.with("099;199");
        r.cloud(1, wet, 1);
        r.shot(kind, 1, 2, powder);
        String call = "kind " + kind + ", powder " + powder + ", wet " + wet;
        check.due(call + ": rain", r.fell(1, 2, 0), falls - hail);
        check.due(call + ": hail", r.fell(1, 2, 1), hail);
        check.due(call + ": both", r.by(0, 0), falls);
        check.due(call + ": is left", r.ofCloud(0, 3, 1), wet - falls);
    }

    private static void noneThere() {
        check.says("(If there is none, nothing falls.)");
        RainAccount r = Check.with("099;199");
        r.shot(2, 0, 0, 9);
        check.due("no clouds: how much", r.by(0, 0), 0);
        check.due("no clouds: of which", r.by(0, 1), -9);
        check.due("no clouds: rain", r.fell(0, 11, 0), 0);
        check.due("no clouds: hail", r.fell(0, 11, 1), 0);
        r.cloud(0, 9, 9);
        r.shot(1, 0, 0, 4);
        check.due("too high: how much", r.by(1, 0), 0);
        check.due("too high: of which", r.by(1, 1), -9);
        r.shot(0, 1, 0, 9);
        check.due("above another field: how much", r.by(2, 0), 0);
        check.due("above another field: of which", r.by(2, 1), -9);
    }

    private static void forbiddenHoursFall() {
        check.says("BREACHES: SHOTS in a FORBIDDEN HOUR (a set of HOURS).");
        RainAccount r = Check.with("099;199");
        r.set(1, 1);
        r.set(2, 4095);
        r.cloud(0, 30, 1);
        r.shot(0, 0, 0, 5);
        check.due("it is fired all the same", r.by(0, 0), 5);
        check.due("and it rains", r.fell(0, 0, 0), 6);
    }

    private static void gotWithoutHail() {
        check.says("GOT: rain that fell on a FIELD, without HAIL.");
        RainAccount r = Check.with("099;199");
        r.cloud(0, 30, 1);
        r.shot(2, 0, 0, 9);
        check.due("6 rain, 3 hail", r.yields(0), 9 * 6 - 2 * 3);
        Check.write(r, 0, 2, 6, 0);
        check.due("it got 6", r.missed(0, 2, 0), 1 << 8);
    }

    private static void lesserOfGotAndNeed() {
        check.says("WORTH times the lesser of GOT and NEED");
        for (int need = 0; need <= 9; need++) {
            RainAccount r = Check.with("399;0" + need + "7;1" + need + "0");
            r.cloud(1, 30, 1);
            r.cloud(2, 30, 1);
            for (int got = 1; got <= 9; got++) {
                r.shot(0, 1, 0, got);
                r.shot(0, 2, 0, got);
                check.due("got " + got + " of " + need, r.yields(1), 7 * Math.min(got, need));
                check.due("worth nothing", r.yields(2), 0);
                r.back(2);
            }
            check.due("got nothing", r.yields(1), 0);
        }
    }

    private static void lessTwoForHail() {
        check.says("less 2 for each HAIL");
        int[] rain = {0, 1, 2, 2, 3, 4, 4, 5, 6, 6};
        int[] hail = {0, 0, 0, 1, 1, 1, 2, 2, 2, 3};
        for (int powder = 1; powder <= 9; powder++) {
            RainAccount r = Check.with("095;199");
            r.cloud(0, 30, 1);
            r.shot(2, 0, 0, powder);
            check.due("bomb of " + powder, r.yields(0), 5 * rain[powder] - 2 * hail[powder]);
        }
        RainAccount two = Check.with("099;199");
        two.cloud(0, 30, 1);
        two.shot(2, 0, 0, 4);
        two.shot(2, 0, 1, 5);
        check.due("a third of each, not of both", two.yields(0), 9 * 7 - 2 * 2);
    }

    private static void zeroAtLeast() {
        check.says("less 2 for each HAIL, 0 at least; of a CLUB: of its FIELDS");
        // A bomb of 9 gives 6 rain and 3 hail, one of 4 gives 3 rain and 1 hail.
        yieldOfBomb("061", 9, 0);
        yieldOfBomb("051", 9, 0);
        yieldOfBomb("001", 9, 0);
        yieldOfBomb("090", 9, 0);
        yieldOfBomb("042", 9, 2);
        yieldOfBomb("091", 4, 1);
        yieldOfBomb("021", 4, 0);
        yieldOfBomb("011", 4, 0);
        RainAccount r = Check.with("001;092");
        r.cloud(0, 30, 1);
        r.cloud(1, 30, 1);
        r.shot(2, 0, 0, 9);
        r.shot(0, 1, 0, 3);
        check.due("a field below 0 takes nothing from its club", r.harvest(0), 6);
        check.due("nor from all", r.harvest(-1), 6);
    }

    private static void yieldOfBomb(String field, int powder, int want) {
        RainAccount r = Check.with("199;" + field);
        r.cloud(1, 30, 1);
        r.shot(2, 1, 0, powder);
        check.due("yields of " + field + " by a bomb of " + powder, r.yields(1), want);
        check.due("harvest of " + field + " by a bomb of " + powder, r.harvest(0), want);
    }

    private static void ofClubs() {
        check.says("of a CLUB: of its FIELDS; of all: of all FIELDS.");
        RainAccount r = Check.with("391;092;193;094;295;396");
        for (int c = 0; c < 6; c++) {
            r.cloud(c, 30, 1);
            r.shot(0, c, 0, 2);
            check.due("yields(" + c + ")", r.yields(c), 2 * (c + 1));
        }
        check.due("of 0", r.harvest(0), 4 + 8);
        check.due("of 1", r.harvest(1), 6);
        check.due("of 2", r.harvest(2), 10);
        check.due("of 3", r.harvest(3), 2 + 12);
        check.due("of all", r.harvest(-1), 42);
        RainAccount none = Check.with("091;091");
        none.set(1, 9);
        none.cloud(0, 30, 1);
        check.due("of a club without fields", none.harvest(1) + none.harvest(2) + none.harvest(3), 0);
        check.due("of the one with all", none.harvest(0), 9);
        for (int club = -1; club < 4; club++) {
            check.due("without a plain", new RainAccount().harvest(club), 0);
        }
    }

    /** Eight fields that need and are worth the most, and have it all. */
    static RainAccount richest() {
        RainAccount r = Check.with("099;099;099;099;199;199;199;199");
        r.set(0, 1);
        r.set(1, 9);
        for (int c = 0; c < 6; c++) {
            r.cloud(-Math.min(c, 4), 30, 1);
        }
        for (int s = 0; s < 8; s++) {
            // Each field by another cloud's way, so that none is dry too soon.
            r.shot(1, s, s + s % 5, 9);
        }
        return r;
    }

    private static void mostOfAll() {
        check.says("of all: of all FIELDS");
        RainAccount r = richest();
        for (int f = 0; f < 8; f++) {
            check.due("yields(" + f + ")", r.yields(f), 81);
        }
        check.due("of 0", r.harvest(0), 4 * 81);
        check.due("of 1", r.harvest(1), 4 * 81);
        check.due("of all", r.harvest(-1), 8 * 81);
    }

    private static void behindAnHour() {
        check.says("Behind an HOUR, what fell on a FIELD by then: rain (what 0), HAIL (1).");
        RainAccount r = Check.with("099;199");
        r.cloud(0, 30, 1);
        r.shot(2, 0, 0, 3);
        r.shot(2, 0, 6, 6);
        r.shot(2, 0, 11, 9);
        int[] rain = {2, 2, 2, 2, 2, 2, 6, 6, 6, 6, 6, 12};
        int[] hail = {1, 1, 1, 1, 1, 1, 3, 3, 3, 3, 3, 6};
        for (int hour = 0; hour < 12; hour++) {
            check.due("rain by hour " + hour, r.fell(0, hour, 0), rain[hour]);
            check.due("hail by hour " + hour, r.fell(0, hour, 1), hail[hour]);
            check.due("elsewhere", r.fell(1, hour, 0) + r.fell(1, hour, 1), 0);
        }
    }

    private static void byShots() {
        check.says("how much fell (rain and HAIL; what 0), of which CLOUD (1; NONE)");
        RainAccount r = Check.with("099;199");
        for (int c = 0; c < 6; c++) {
            r.cloud(0, 5, 9 - c);
        }
        for (int s = 0; s < 8; s++) {
            r.shot(2, 0, 11 - s, 5);
        }
        int[] sources = {-9, -9, 0, 1, 2, 3, 4, 5};
        for (int s = 0; s < 8; s++) {
            check.due("by(" + s + ", 0)", r.by(s, 0), s < 2 ? 0 : 5);
            check.due("by(" + s + ", 1)", r.by(s, 1), sources[s]);
        }
    }
}
