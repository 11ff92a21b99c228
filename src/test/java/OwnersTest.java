/** Promises 14 to 16. */
public final class OwnersTest {
    private static final Check check = new Check();

    public static void main(String[] args) {
        robbed();
        idlers();
        breaches();
        wrongInputs();
        check.end();
    }

    /** Club 0 empties the cloud before it comes to club 1's field. */
    private static void robbed() {
        RainAccount r = Check.with("092;193");
        r.set(0, 1);
        r.cloud(0, 5, 2);
        r.shot(0, 0, 0, 4);
        r.shot(0, 1, 1, 4);
        check.due("harvest", r.harvest(-1), 4 * 2 + 1 * 3);
        check.due("brought to 0", r.brought(0, 0), 8);
        check.due("brought to 1", r.brought(0, 1), 3 - 12);
        check.due("brought to all", r.brought(0, -1), 11 - 12);
        check.due("brought to 3", r.brought(0, 3), 0);
        check.due("due to 0", r.due(0, 0), 0);
        check.due("due to 1", r.due(0, 1), 9);
        check.due("due to 3", r.due(0, 3), 0);
        check.due("brought by 1 to 1", r.brought(1, 1), 3);
        check.due("due by 1 to 0", r.due(1, 0), 0);
        check.due("idle", r.idle(0), 0);
        RainAccount hail = Check.with("011;199");
        hail.cloud(0, 30, 1);
        hail.shot(0, 0, 0, 1);
        hail.shot(2, 0, 1, 9);
        check.due("hail brings less", hail.brought(1, 0), -1);
        check.due("due to its own", hail.due(1, 0), 1);
    }

    private static void idlers() {
        RainAccount r = Check.with("019;199");
        check.due("none", r.idle(0), 0);
        r.cloud(0, 4, 5);
        r.shot(0, 0, 0, 4);
        r.shot(0, 1, 0, 9);
        r.shot(0, 0, 1, 9);
        r.shot(0, 0, 1, 9);
        check.due("too low, none there; either of two", r.idle(0), 15);
        r.back(1);
        check.due("too low, none there", r.idle(0), 3);
        RainAccount needless = Check.with("019;199");
        needless.cloud(0, 9, 1);
        needless.shot(0, 0, 0, 3);
        needless.shot(0, 0, 1, 3);
        check.due("what is not needed fell, too", needless.idle(0), 0);
        check.due("but brought nothing", needless.brought(1, -1), 0);
        RainAccount hail = Check.with("019;199");
        hail.cloud(0, 9, 1);
        hail.shot(0, 0, 0, 9);
        hail.shot(2, 0, 0, 9);
        check.due("a bomb behind a shot", hail.idle(0), 2);
        hail.back(2);
        hail.shot(2, 0, 0, 9);
        hail.shot(0, 0, 0, 9);
        check.due("a bomb ahead of it: hail were otherwise", hail.idle(0), 2);
    }

    private static void breaches() {
        RainAccount r = Check.with("019;199");
        r.shot(0, 0, 0, 1);
        r.shot(0, 0, 11, 1);
        r.shot(0, 0, 5, 1);
        check.due("none is forbidden", r.idle(1), 0);
        r.set(2, 1 | 1 << 11);
        check.due("first and last", r.idle(1), 3);
        r.set(2, 4095);
        check.due("all", r.idle(1), 7);
        check.due("bare", new RainAccount().idle(1), 0);
    }

    private static void wrongInputs() {
        RainAccount r = Check.with("019;199");
        r.shot(0, 0, 0, 1);
        long lost = Long.MIN_VALUE;
        check.due("LOST", RainAccount.LOST, lost);
        check.due("brought", r.brought(1, 0), lost);
        check.due("brought", r.brought(-1, 0), lost);
        check.due("brought", r.brought(0, 4), lost);
        check.due("brought", r.brought(0, -2), lost);
        check.due("due", r.due(1, 0), -1);
        check.due("due", r.due(-1, 0), -1);
        check.due("due", r.due(0, 4), -1);
        check.due("due", r.due(0, -1), -1);
        check.due("idle", r.idle(2), -2);
        check.due("idle", r.idle(-1), -2);
    }
}
