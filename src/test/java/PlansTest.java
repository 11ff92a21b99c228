/** Promises 17 to 19. */
public final class PlansTest {
    private static final Check check = new Check();

    public static void main(String[] args) {
        onesMore();
        noOneMore();
        awaited();
        duels();
        mostPlans();
        wrongInputs();
        check.end();
    }

    private static void best(RainAccount r, int club, int powder, int yield, int field, int hour) {
        String call = "oneMore(" + club + ", " + powder + ")";
        check.due(call + " yield", r.oneMore(club, powder, 0), yield);
        check.due(call + " field", r.oneMore(club, powder, 1), field);
        check.due(call + " hour", r.oneMore(club, powder, 2), hour);
    }

    private static void onesMore() {
        RainAccount r = Check.with("092;193;095");
        r.set(0, 1);
        r.cloud(-1, 4, 2);
        best(r, -1, 3, 15, 2, 3);
        best(r, 0, 3, 15, 2, 3);
        best(r, 1, 3, 9, 1, 2);
        best(r, 0, 1, 0, 0, 0);
        best(r, 3, 3, -9, -9, -9);
        r.set(2, 1 << 3);
        best(r, 0, 3, 6, 0, 1);
        best(r, -1, 3, 9, 1, 2);
        r.set(2, 1 << 3 | 1);
        best(r, 0, 1, 0, 0, 1);
        check.due("no shot is left behind", r.many(2), 0);
        check.due("no yield is left behind", r.harvest(-1), 0);
        RainAccount full = Check.with("099;199");
        full.cloud(0, 9, 1);
        for (int s = 0; s < 8; s++) {
            full.shot(0, 1, 0, 9);
        }
        best(full, 0, 5, 45, 0, 0);
        check.due("eight are left", full.many(2), 8);
        full.back(8);
        full.shot(0, 0, 3, 9);
        best(full, -1, 1, 81, 0, 0);
    }

    private static void noOneMore() {
        RainAccount r = Check.with("092;193");
        r.set(2, 4095);
        best(r, -1, 9, -9, -9, -9);
        best(r, 0, 9, -9, -9, -9);
    }

    private static void share(RainAccount r, int c, long upper, long lower) {
        check.due("awaited(" + c + ", 0)", r.awaited(c, 0), upper);
        check.due("awaited(" + c + ", 1)", r.awaited(c, 1), lower);
    }

    private static void awaited() {
        share(new RainAccount(), 5, 0, 1);
        RainAccount r = Check.with("099;199");
        share(r, 7, 0, 1);
        r.set(1, 1);
        r.cloud(0, 2, 1);
        share(r, 7, 18, 1);
        r.cloud(1, 9, 2);
        r.shot(0, 1, 0, 2);
        share(r, 0, 18, 1);
        share(r, 10, 36, 1);
        share(r, 5, 27, 1);
        share(r, 3, 117, 5);
        r.shot(0, 1, 3, 3);
        share(r, 1, 45, 2);
        share(r, 10, 63, 1);
    }

    private static void duel(RainAccount r, int club, int other, int powder, int count, int first) {
        String call = "rests(" + club + ", " + other + ", " + powder + ")";
        check.due(call + " count", r.rests(club, other, powder, 0), count);
        check.due(call + " first", r.rests(club, other, powder, 1), first);
    }

    private static void duels() {
        RainAccount r = Check.with("011;111");
        duel(r, 0, 1, 1, 13 * 13, 12);
        r.set(2, 4095);
        duel(r, 0, 1, 1, 1, 9696);
        duel(r, 2, 3, 1, 1, 9696);
        r.set(2, 4094);
        r.cloud(0, 1, 1);
        duel(r, 0, 1, 1, 2, 12);
        duel(r, 1, 0, 1, 2, 1200);
        duel(r, 0, 2, 1, 1, 96);
        duel(r, 2, 0, 1, 1, 9600);
        check.due("no shot is left behind", r.many(2), 0);
        RainAccount drawn = Check.with("011;111");
        drawn.set(0, 1);
        drawn.cloud(0, 1, 1);
        // Whoever is upwind takes it all, whatever the other one does.
        duel(drawn, 0, 1, 1, 13, 12);
        duel(drawn, 1, 0, 1, 13, 1200);
        for (int s = 0; s < 8; s++) {
            drawn.shot(0, 1, 11, 1);
        }
        duel(drawn, 0, 1, 1, 13, 12);
        check.due("eight are left", drawn.many(2), 8);
        RainAccount chase = Check.with("011;111;099");
        chase.set(0, -2);
        chase.cloud(2, 1, 1);
        chase.set(2, 4092);
        duel(chase, 0, 1, 1, 3, 2412);
    }

    /** As many plans as eight fields can make: of two clubs with four each, and of one that has them all. */
    private static void mostPlans() {
        RainAccount halves = Check.with("011;111;011;111;011;111;011;111");
        duel(halves, 0, 1, 9, 49 * 49, 12);
        halves.cloud(7, 1, 1);
        // Club 1 takes the cloud in any hour from field 7; club 0 has nothing by any of its 49 plans.
        duel(halves, 0, 1, 9, 49 * 12, 84);
        duel(halves, 1, 0, 9, 49 * 12, 8400);
        RainAccount whole = Check.with("311;311;311;311;311;311;311;311");
        duel(whole, 3, 0, 1, 97, 96);
        duel(whole, 0, 3, 1, 97, 9600);
        whole.cloud(7, 1, 1);
        duel(whole, 3, 0, 1, 12, 8496);
        duel(whole, 0, 3, 1, 12, 9684);
    }

    private static void wrongInputs() {
        RainAccount bare = new RainAccount();
        check.due("oneMore bare", bare.oneMore(-1, 1, 0), -3);
        check.due("oneMore bare", bare.oneMore(-1, 0, 0), -2);
        check.due("rests bare", bare.rests(0, 1, 1, 0), -3);
        check.due("rests bare", bare.rests(0, 1, 1, 2), -2);
        RainAccount r = Check.with("099;199");
        check.due("oneMore club", r.oneMore(4, 0, 3), -1);
        check.due("oneMore club", r.oneMore(-2, 1, 0), -1);
        check.due("oneMore powder", r.oneMore(0, 0, 0), -2);
        check.due("oneMore powder", r.oneMore(0, 10, 0), -2);
        check.due("oneMore what", r.oneMore(0, 1, 3), -2);
        check.due("oneMore what", r.oneMore(0, 1, -1), -2);
        long lost = Long.MIN_VALUE;
        check.due("awaited c", r.awaited(11, 0), lost);
        check.due("awaited c", r.awaited(-1, 0), lost);
        check.due("awaited which", r.awaited(0, 2), lost);
        check.due("awaited which", r.awaited(0, -1), lost);
        check.due("rests one", r.rests(1, 1, 0, 2), -1);
        check.due("rests club", r.rests(4, 1, 0, 2), -1);
        check.due("rests club", r.rests(-1, 1, 1, 0), -1);
        check.due("rests other", r.rests(0, 4, 1, 0), -1);
        check.due("rests other", r.rests(0, -1, 1, 0), -1);
        check.due("rests powder", r.rests(0, 1, 0, 0), -2);
        check.due("rests powder", r.rests(0, 1, 10, 0), -2);
        check.due("rests what", r.rests(0, 1, 1, 2), -2);
        check.due("rests what", r.rests(0, 1, 1, -1), -2);
    }
}
