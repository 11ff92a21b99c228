/** Promises 10 to 13. */
public final class DayTest {
    private static final Check check = new Check();

    public static void main(String[] args) {
        drops();
        aims();
        hails();
        orders();
        wrongInputs();
        check.end();
    }

    private static void falls(RainAccount r, int f, int what, int... want) {
        for (int hour = 0; hour < want.length; hour++) {
            check.due("fell(" + f + ", " + hour + ", " + what + ")", r.fell(f, hour, what), want[hour]);
        }
    }

    /** Low clouds drop by themselves, drawn on by the wind. */
    private static void drops() {
        RainAccount r = Check.with("022;133;291");
        r.set(0, 1);
        r.set(1, 4);
        r.cloud(-1, 9, 4);
        r.cloud(0, 9, 5);
        falls(r, 0, 0, 0, 1, 1);
        falls(r, 1, 0, 0, 0, 1, 1);
        falls(r, 2, 0, 0, 0, 0, 1, 1, 1, 1, 1, 1, 1, 1);
        r.set(1, 5);
        falls(r, 0, 0, 1, 2, 2);
        r.set(0, 0);
        falls(r, 0, 0, 1, 2, 3, 4, 5, 6, 7, 8, 9, 9, 9, 9);
        check.due("yields: what is needed", r.yields(0), 4);
        check.due("yields: nothing got", r.yields(1), 0);
        check.due("harvest of all", r.harvest(-1), 4);
        check.due("harvest of 0", r.harvest(0), 4);
        check.due("harvest of 1", r.harvest(1), 0);
        check.due("harvest of 3, that has none", r.harvest(3), 0);
        r.set(1, 0);
        falls(r, 0, 0, 0, 0, 0, 0);
    }

    /** The lowest cloud in reach that is wet; of several the least number. */
    private static void aims() {
        RainAccount r = Check.with("099;199");
        r.cloud(0, 2, 6);
        r.cloud(0, 5, 3);
        r.cloud(0, 5, 3);
        r.cloud(1, 5, 1);
        r.shot(0, 0, 1, 3);
        r.shot(0, 0, 1, 4);
        r.shot(0, 0, 1, 5);
        r.shot(0, 0, 2, 2);
        r.shot(1, 0, 2, 3);
        r.shot(1, 0, 3, 2);
        r.shot(1, 0, 0, 3);
        // In hour 0 rocket 6 takes 3 of cloud 1; shot 0 takes the 2 left of it, 1 and 2 go on with cloud 2.
        int[] amounts = {2, 4, 1, 0, 2, 0, 3};
        int[] sources = {1, 2, 2, -9, 0, -9, 1};
        for (int s = 0; s < 7; s++) {
            check.due("by(" + s + ", 0)", r.by(s, 0), amounts[s]);
            check.due("by(" + s + ", 1)", r.by(s, 1), sources[s]);
        }
        falls(r, 0, 0, 3, 10, 12, 12);
        falls(r, 1, 0, 0, 0, 0, 0);
        check.due("yields", r.yields(0), 81);
    }

    private static void hails() {
        RainAccount r = Check.with("021;199");
        r.cloud(0, 20, 8);
        r.shot(2, 0, 0, 4);
        r.shot(2, 0, 1, 8);
        r.shot(2, 0, 2, 9);
        falls(r, 0, 0, 3, 9, 15, 15);
        falls(r, 0, 1, 1, 3, 5, 5);
        check.due("by 1", r.by(1, 0), 8);
        check.due("0 at least", r.yields(0), 0);
        r.back(2);
        check.due("less 2 for a hail", r.yields(0), 0);
        r.shot(0, 0, 3, 8);
        RainAccount rich = Check.with("099;199");
        rich.cloud(0, 20, 8);
        rich.shot(2, 0, 0, 5);
        check.due("4 rain, 1 hail", rich.yields(0), 34);
        check.due("harvest", rich.harvest(-1), 34);
        check.due("too low", r.shot(2, 0, 4, 3), 2);
        check.due("nothing of it", r.by(2, 0), 0);
        check.due("no cloud", r.by(2, 1), -9);
        RainAccount two = Check.with("011;199");
        two.cloud(0, 2, 1);
        two.shot(2, 0, 0, 9);
        check.due("a third of two is none", two.fell(0, 0, 1), 0);
        check.due("rain", two.fell(0, 0, 0), 2);
    }

    /** By itself first, then shot by shot by number; a forbidden hour stops no shot. */
    private static void orders() {
        RainAccount r = Check.with("099;199");
        r.set(1, 9);
        r.cloud(0, 3, 2);
        r.shot(0, 0, 0, 9);
        r.shot(0, 0, 0, 9);
        check.due("1 fell before", r.by(0, 0), 2);
        check.due("nothing is left", r.by(1, 0), 0);
        check.due("of none", r.by(1, 1), -9);
        r.set(2, 4095);
        check.due("forbidden, but fired", r.by(0, 0), 2);
        r.set(0, 3);
        check.due("still above", r.by(0, 0), 2);
        r.set(0, -1);
        RainAccount drawn = Check.with("099;199");
        drawn.set(0, -2);
        drawn.cloud(20, 9, 2);
        drawn.shot(0, 0, 10, 2);
        drawn.shot(0, 1, 10, 2);
        drawn.shot(0, 0, 9, 2);
        check.due("there in hour 10", drawn.by(0, 0), 2);
        check.due("not on the other field", drawn.by(1, 0), 0);
        check.due("not in hour 9", drawn.by(2, 0), 0);
    }

    private static void wrongInputs() {
        RainAccount r = Check.with("055;155");
        r.shot(0, 0, 0, 1);
        check.due("fell field", r.fell(2, 12, 2), -1);
        check.due("fell field", r.fell(-1, 0, 0), -1);
        check.due("fell hour", r.fell(0, 12, 0), -2);
        check.due("fell hour", r.fell(0, -1, 0), -2);
        check.due("fell what", r.fell(0, 0, 2), -2);
        check.due("fell what", r.fell(0, 0, -1), -2);
        check.due("by shot", r.by(1, 2), -1);
        check.due("by shot", r.by(-1, 0), -1);
        check.due("by what", r.by(0, 2), -2);
        check.due("by what", r.by(0, -1), -2);
        check.due("yields", r.yields(2), -1);
        check.due("yields", r.yields(-1), -1);
        check.due("harvest", r.harvest(4), -1);
        check.due("harvest", r.harvest(-2), -1);
        check.due("harvest bare", new RainAccount().harvest(-1), 0);
        check.due("harvest bare", new RainAccount().harvest(3), 0);
        check.due("yields bare", new RainAccount().yields(0), -1);
    }
}
