/** Part 4 of the terms, and promises 17 to 19, by the sentences that name a boundary. */
public final class PlansEdgesTest {
    private static final int ALL_HOURS = 4095;

    private static final Check check = new Check();

    public static void main(String[] args) {
        ofKindZero();
        withPowder();
        fromAField();
        inAnHour();
        behindAllOthers();
        greatest();
        leastFieldAndHour();
        noSuchPlace();
        awaitedEnds();
        awaitedApart();
        awaitedInLeastTerms();
        awaitedMost();
        duelsOfKindZero();
        duelsFromTheirOwn();
        duelsInHours();
        duelsBehindAllOthers();
        duelsByHavingMore();
        duelsTold();
        duelsWithoutRest();
        duelsOfNoFields();
        check.end();
    }

    private static void best(RainAccount r, int club, int powder, int yield, int field, int hour) {
        String call = "oneMore(" + club + ", " + powder + ")";
        check.due(call + " yield", r.oneMore(club, powder, 0), yield);
        check.due(call + " field", r.oneMore(club, powder, 1), field);
        check.due(call + " hour", r.oneMore(club, powder, 2), hour);
    }

    private static void ofKindZero() {
        check.says("ONE MORE for a CLUB (or for all: -1): a SHOT of kind 0");
        for (int high = 1; high <= 9; high++) {
            RainAccount r = Check.with("091;199");
            r.cloud(1, 30, high);
            for (int powder = 1; powder <= 9; powder++) {
                boolean reaches = high <= powder;
                best(r, 1, powder, reaches ? 9 * powder : 0, 1, 0);
                best(r, -1, powder, reaches ? 9 * powder : 0, reaches ? 1 : 0, 0);
            }
        }
    }

    private static void withPowder() {
        check.says("UNKNOWN: CLUB; OUTSIDE: POWDER (1 .. 9), what; STATE: there is no PLAIN.");
        RainAccount r = Check.with("091;192");
        r.cloud(0, 30, 1);
        best(r, 0, 1, 1, 0, 0);
        best(r, 0, 9, 9, 0, 0);
        check.due("powder 0", r.oneMore(0, 0, 0), -2);
        check.due("powder 10", r.oneMore(0, 10, 0), -2);
        check.due("what -1", r.oneMore(0, 1, -1), -2);
        check.due("what 3", r.oneMore(0, 1, 3), -2);
        check.due("club -2", r.oneMore(-2, 1, 0), -1);
        check.due("club 4", r.oneMore(4, 1, 0), -1);
        check.due("bare", new RainAccount().oneMore(-1, 9, 2), -3);
    }

    private static void fromAField() {
        check.says("from a FIELD (of that CLUB; any, for all)");
        RainAccount r = Check.with("099;199;299;399;098;198;298;398");
        for (int c = 0; c < 6; c++) {
            r.cloud(c + 2, 9, 1);
        }
        best(r, -1, 9, 81, 2, 0);
        best(r, 0, 9, 72, 4, 0);
        best(r, 1, 9, 72, 5, 0);
        best(r, 2, 9, 81, 2, 0);
        best(r, 3, 9, 81, 3, 0);
        RainAccount last = Check.with("099;199;299;399;098;198;298;398");
        last.cloud(7, 9, 1);
        best(last, 3, 9, 72, 7, 0);
        best(last, -1, 9, 72, 7, 0);
        best(last, 2, 9, 0, 2, 0);
        best(last, 0, 9, 0, 0, 0);
    }

    private static void inAnHour() {
        check.says("in an HOUR that is not FORBIDDEN");
        RainAccount r = Check.with("099;199");
        r.cloud(0, 30, 1);
        for (int hour = 0; hour < 12; hour++) {
            r.set(2, ALL_HOURS - (1 << hour));
            best(r, 0, 3, 27, 0, hour);
            best(r, -1, 3, 27, 0, hour);
        }
        for (int hour = 0; hour < 12; hour++) {
            r.set(2, (1 << hour) - 1);
            best(r, 0, 3, 27, 0, hour);
        }
        for (int hour = 0; hour < 12; hour++) {
            RainAccount drawn = Check.with("099;199");
            drawn.set(0, -1);
            drawn.cloud(hour + 1, 30, 1);
            best(drawn, 1, 2, 18, 1, hour);
            drawn.set(2, 1 << hour);
            best(drawn, 1, 2, 0, 1, hour == 0 ? 1 : 0);
        }
    }

    private static void behindAllOthers() {
        check.says("numbered behind all others (also where there are 8)");
        for (int shots = 1; shots <= 8; shots++) {
            RainAccount r = Check.with("091;194");
            r.set(2, ALL_HOURS - 1);
            r.set(0, 1);
            r.cloud(0, 9, 1);
            for (int s = 0; s < shots; s++) {
                r.shot(0, s == 0 ? 1 : 0, s == 0 ? 1 : 0, 1);
            }
            int others = shots - 1;
            // Those of club 0 come first; one more takes what is left, and none is left for club 1 then.
            best(r, 0, 9, 9, 0, 0);
            best(r, 0, 1, Math.min(9, others + 1), 0, 0);
            best(r, 1, 9, 4, 1, 0);
            check.due("none is left behind", r.many(2), shots);
            check.due("nor what it took", r.harvest(-1), others + 4);
        }
        RainAccount dry = Check.with("099;191");
        dry.cloud(0, 9, 1);
        for (int s = 0; s < 8; s++) {
            dry.shot(2, 0, 0, 9);
        }
        // A bomb took all ahead of it in hour 0; it can't be ahead of a bomb there.
        dry.set(2, ALL_HOURS - 1);
        best(dry, 0, 9, 9 * 6 - 6, 0, 0);
        dry.back(8);
        dry.shot(2, 0, 1, 9);
        best(dry, 0, 9, 81, 0, 0);
    }

    private static void greatest() {
        check.says("by which YIELD of the CLUB (of all) is the greatest");
        RainAccount r = Check.with("091;195;092");
        r.set(0, 1);
        r.cloud(0, 3, 1);
        r.shot(0, 1, 1, 3);
        // By itself it yields 15 to club 1; club 0 has most by taking it in hour 0, all have most by leaving it.
        best(r, 0, 3, 3, 0, 0);
        best(r, -1, 3, 15, 0, 1);
        best(r, 1, 3, 15, 1, 0);
        r.back(1);
        best(r, 0, 3, 6, 2, 2);
        best(r, 1, 3, 15, 1, 1);
        best(r, -1, 3, 15, 1, 1);
        RainAccount had = Check.with("091;191");
        had.set(1, 1);
        had.cloud(0, 3, 1);
        had.cloud(1, 9, 2);
        best(had, 0, 9, 3, 0, 0);
        best(had, -1, 9, 12, 1, 0);
    }

    private static void leastFieldAndHour() {
        check.says("of several the least FIELD, then the least HOUR");
        RainAccount r = Check.with("199;099;099;099");
        best(r, -1, 1, 0, 0, 0);
        best(r, 0, 1, 0, 1, 0);
        r.cloud(3, 30, 1);
        r.cloud(2, 30, 1);
        best(r, 0, 1, 9, 2, 0);
        r.set(2, 7);
        best(r, 0, 1, 9, 2, 3);
        RainAccount drawn = Check.with("199;099;099;099");
        drawn.set(0, -1);
        drawn.cloud(4, 30, 1);
        // Above field 3 in hour 1, above field 2 in hour 2, above field 1 in hour 3.
        best(drawn, 0, 1, 9, 1, 3);
        drawn.set(2, 1 << 3);
        best(drawn, 0, 1, 9, 2, 2);
    }

    private static void noSuchPlace() {
        check.says("ONE MORE: YIELD (what 0), the FIELD (1), the HOUR (2); NONE: there is no such FIELD, HOUR.");
        RainAccount r = Check.with("099;199");
        r.cloud(0, 9, 1);
        for (int what = 0; what < 3; what++) {
            check.due("a club without fields", r.oneMore(2, 9, what), -9);
            check.due("another one", r.oneMore(3, 9, what), -9);
            r.set(2, ALL_HOURS);
            check.due("no hour", r.oneMore(0, 9, what), -9);
            check.due("no hour for all", r.oneMore(-1, 9, what), -9);
            r.set(2, 0);
        }
        check.due("outside comes first", r.oneMore(2, 10, 0), -2);
    }

    private static void share(RainAccount r, int c, long upper, long lower) {
        check.due("awaited(" + c + ", 0)", r.awaited(c, 0), upper);
        check.due("awaited(" + c + ", 1)", r.awaited(c, 1), lower);
    }

    private static void awaitedEnds() {
        check.says("each SHOT goes off in c of ten cases (0 .. 10)");
        RainAccount r = Check.with("099;199");
        r.set(1, 1);
        r.cloud(1, 2, 1);
        r.cloud(0, 30, 2);
        for (int shots = 0; shots <= 8; shots++) {
            share(r, 0, 18, 1);
            share(r, 10, 18 + 9 * shots, 1);
            r.shot(1, 0, shots, 1);
        }
        for (int c = 0; c <= 10; c++) {
            RainAccount one = Check.with("091;190");
            one.cloud(0, 30, 1);
            share(one, c, 0, 1);
            one.shot(0, 0, 0, 1);
            int[] common = {10, 1, 2, 1, 2, 5, 2, 1, 2, 1, 10};
            share(one, c, c / common[c], 10 / common[c]);
        }
        check.due("-1", r.awaited(-1, 0), Long.MIN_VALUE);
        check.due("11", r.awaited(11, 0), Long.MIN_VALUE);
        check.due("which -1", r.awaited(0, -1), Long.MIN_VALUE);
        check.due("which 2", r.awaited(0, 2), Long.MIN_VALUE);
    }

    private static void awaitedApart() {
        check.says("apart from the others");
        RainAccount r = Check.with("091;190");
        r.cloud(0, 1, 1);
        long none = 1;
        long all = 1;
        for (int s = 0; s < 8; s++) {
            r.shot(0, 0, s, 1);
            none *= 9;
            all *= 10;
            // There is a yield of 1 if any of them goes off.
            share(r, 1, all - none, all);
            share(r, 9, all - 1, all);
        }
    }

    private static void awaitedInLeastTerms() {
        check.says("Shares are told as upper and lower number (above 0) in least terms.");
        for (int c = 0; c <= 10; c++) {
            share(new RainAccount(), c, 0, 1);
            share(Check.with("099;199"), c, 0, 1);
        }
        RainAccount r = Check.with("091;190");
        r.cloud(0, 30, 1);
        for (int s = 0; s < 8; s++) {
            r.shot(0, 0, s, 1);
        }
        // Eight times c of ten.
        int[] upper = {0, 4, 8, 12, 16, 4, 24, 28, 32, 36, 8};
        int[] lower = {1, 5, 5, 5, 5, 1, 5, 5, 5, 5, 1};
        for (int c = 0; c <= 10; c++) {
            share(r, c, upper[c], lower[c]);
        }
        RainAccount both = Check.with("092;190");
        both.cloud(0, 3, 1);
        both.shot(0, 0, 0, 2);
        both.shot(0, 0, 1, 2);
        // 4 if one goes off, 6 if both do.
        share(both, 5, 7, 2);
    }

    private static void awaitedMost() {
        check.says("what YIELD of all is to be awaited");
        RainAccount r = DayEdgesTest.richest();
        share(r, 10, 648, 1);
        // By itself 1 falls on each field by each of the six clouds.
        share(r, 0, 8 * 6 * 9, 1);
        RainAccount bomb = Check.with("091;191");
        bomb.cloud(0, 9, 1);
        bomb.shot(2, 0, 0, 9);
        bomb.shot(0, 0, 1, 9);
        // The bomb alone or with the shot: 6 less 6; the shot alone: 9.
        share(bomb, 5, 9, 4);
        share(bomb, 1, 81, 100);
    }

    private static void duel(RainAccount r, int club, int other, int powder, int count, int first) {
        String call = "rests(" + club + ", " + other + ", " + powder + ")";
        check.due(call + " count", r.rests(club, other, powder, 0), count);
        check.due(call + " first", r.rests(club, other, powder, 1), first);
    }

    private static void duelsOfKindZero() {
        check.says("each fires one SHOT of kind 0 more");
        for (int high = 1; high <= 9; high++) {
            RainAccount r = Check.with("091;199");
            r.set(2, ALL_HOURS - 4);
            r.cloud(1, 30, high);
            for (int powder = 1; powder <= 9; powder++) {
                boolean reaches = high <= powder;
                duel(r, 0, 1, powder, reaches ? 2 : 4, 214);
                duel(r, 1, 0, powder, reaches ? 2 : 4, 1402);
            }
        }
        RainAccount dry = Check.with("099;199");
        dry.set(2, ALL_HOURS - 4);
        for (int f = 0; f < 2; f++) {
            dry.cloud(f, 3, 1);
            dry.cloud(f, 30, 4);
            dry.shot(0, f, 1, 3);
        }
        // The low clouds are dry by hour 2; the high ones a rocket with powder 3 would reach, a shot does not.
        duel(dry, 0, 1, 3, 4, 214);
        duel(dry, 0, 1, 4, 1, 214);
        duel(dry, 1, 0, 3, 4, 1402);
    }

    private static void duelsFromTheirOwn() {
        check.says("from a FIELD of its own");
        RainAccount r = Check.with("099;199;099;199;099;199;099;199");
        r.set(2, ALL_HOURS - 1);
        r.cloud(6, 30, 1);
        r.cloud(7, 30, 1);
        duel(r, 0, 1, 9, 1, 7284);
        duel(r, 1, 0, 9, 1, 8472);
        duel(r, 0, 2, 9, 1, 7296);
        duel(r, 2, 1, 9, 1, 9684);
    }

    private static void duelsInHours() {
        check.says("in an HOUR that is not FORBIDDEN, or none");
        RainAccount r = Check.with("099;199");
        r.cloud(0, 30, 1);
        r.cloud(1, 30, 1);
        for (int hour = 0; hour < 12; hour++) {
            r.set(2, ALL_HOURS - (1 << hour));
            duel(r, 0, 1, 3, 1, 100 * hour + 12 + hour);
            r.set(2, (1 << hour) - 1);
            duel(r, 0, 1, 3, (12 - hour) * (12 - hour), 100 * hour + 12 + hour);
        }
        r.set(2, ALL_HOURS);
        duel(r, 0, 1, 3, 1, 9696);
    }

    private static void duelsBehindAllOthers() {
        check.says("both behind all others (also where there are 8)");
        for (int shots = 0; shots <= 8; shots++) {
            RainAccount r = Check.with("091;191");
            r.set(2, ALL_HOURS - 1);
            r.cloud(0, 8, 1);
            r.cloud(1, 1, 1);
            for (int s = 0; s < shots; s++) {
                r.shot(0, 0, 0, 1);
            }
            // Where eight have taken all, one more or none is alike to club 0.
            duel(r, 0, 1, 1, shots == 8 ? 2 : 1, 12);
            duel(r, 1, 0, 1, shots == 8 ? 2 : 1, 1200);
            check.due("none is left behind", r.many(2), shots);
        }
        RainAccount bomb = Check.with("099;199");
        bomb.set(2, ALL_HOURS - 1);
        bomb.cloud(0, 9, 1);
        bomb.cloud(1, 9, 1);
        bomb.shot(2, 0, 0, 9);
        bomb.shot(2, 1, 0, 9);
        // Ahead of the bombs each would have more; behind them there is nothing left.
        duel(bomb, 0, 1, 9, 4, 12);
    }

    private static void duelsByHavingMore() {
        check.says("pairs of such by which neither would have more YIELD by another one of its own");
        RainAccount r = Check.with("031;194;032");
        r.set(0, 1);
        r.cloud(0, 2, 1);
        // Above field 0 in hour 0, field 1 in hour 1, field 2 in hour 2: whoever is ahead takes it all.
        r.set(2, ALL_HOURS - 7);
        // Club 1 would have it in hour 1; so club 0 takes its 2 in hour 0, and does not wait for 4 in hour 2.
        duel(r, 0, 1, 2, 1, 13);
        duel(r, 1, 0, 2, 1, 1300);
        r.set(2, ALL_HOURS - 6);
        // Now club 0 can't be ahead: it has nothing by any of its five, and club 1 has 8 by hour 1.
        duel(r, 0, 1, 2, 5, 113);
        r.set(2, ALL_HOURS - 4);
        // Hour 2 alone: club 0 has it, club 1 may do what it likes.
        duel(r, 0, 1, 2, 2, 2614);
    }

    private static void duelsTold() {
        check.says("they are told as 100 times the first one's, and the other one's, each 12 times FIELD and HOUR, "
                + "none as 96; the least such number");
        String eight = "099;099;099;099;199;199;199;199";
        RainAccount r = Check.with(eight);
        duel(r, 0, 1, 9, 49 * 49, 48);
        duel(r, 1, 0, 9, 49 * 49, 4800);
        r.set(0, 1);
        r.cloud(-4, 9, 1);
        r.cloud(-8, 9, 1);
        r.set(2, ALL_HOURS - (1 << 11));
        // In hour 11 the first is above field 7, the other one above field 3: hours 95 and 47.
        duel(r, 0, 1, 9, 1, 4795);
        duel(r, 1, 0, 9, 1, 9547);
        duel(r, 2, 1, 9, 1, 9695);
        duel(r, 1, 3, 9, 1, 9596);
        duel(r, 2, 3, 9, 1, 9696);
        RainAccount last = Check.with("399;399;399;399;399;399;399;099");
        duel(last, 3, 0, 1, (7 * 12 + 1) * 13, 84);
        last.cloud(7, 1, 1);
        duel(last, 3, 0, 1, (7 * 12 + 1) * 12, 84);
        last.cloud(6, 1, 1);
        duel(last, 3, 0, 1, 12 * 12, 7284);
        duel(last, 0, 3, 1, 12 * 12, 8472);
    }

    private static void duelsWithoutRest() {
        check.says("RESTS: how many (what 0), the first (1; NONE).");
        RainAccount r = Check.with("031;131;022");
        r.set(0, 1);
        r.cloud(-2, 3, 2);
        r.cloud(0, 1, 3);
        // The first cloud is worth 3 to club 0 in hour 2 and 4 in hour 4, 3 to club 1 in hour 3; the other one is
        // worth 1 to club 1. If club 1 waits for the first, club 0 is ahead of it; if club 0 is ahead, club 1 takes
        // the other one; then club 0 would rather wait; then club 1 would rather have the first.
        duel(r, 0, 1, 3, 0, -9);
        duel(r, 1, 0, 3, 0, -9);
        r.set(2, 1 << 4);
        check.due("if club 0 can't wait, there is one", r.rests(0, 1, 3, 0) > 0 ? 1 : 0, 1);
    }

    private static void duelsOfNoFields() {
        check.says("UNKNOWN: CLUBS, they are one; OUTSIDE: POWDER, what; STATE: there is no PLAIN.");
        RainAccount r = Check.with("011;111");
        for (int club = 0; club < 4; club++) {
            for (int other = 0; other < 4; other++) {
                int ours = club < 2 ? 13 : 1;
                int theirs = other < 2 ? 13 : 1;
                int want = club == other ? -1 : ours * theirs;
                check.due("rests(" + club + ", " + other + ", 1, 0)", r.rests(club, other, 1, 0), want);
            }
        }
        check.due("powder 1 and 9 are taken", r.rests(0, 1, 1, 0) + r.rests(0, 1, 9, 0), 2 * 169);
        check.due("powder 0", r.rests(0, 1, 0, 0), -2);
        check.due("powder 10", r.rests(0, 1, 10, 0), -2);
        check.due("what 2", r.rests(0, 1, 1, 2), -2);
        check.due("what -1", r.rests(0, 1, 1, -1), -2);
        check.due("club -1", r.rests(-1, 1, 1, 0), -1);
        check.due("club 4", r.rests(4, 1, 1, 0), -1);
        check.due("bare", new RainAccount().rests(0, 1, 1, 0), -3);
        check.due("bare, one club", new RainAccount().rests(1, 1, 1, 0), -1);
        check.due("bare, powder", new RainAccount().rests(0, 1, 10, 0), -2);
    }
}
