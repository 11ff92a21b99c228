/** Promises 20 and 21. */
public final class WindsTest {
    private static final Check check = new Check();

    public static void main(String[] args) {
        winds();
        missed();
        faults();
        check.end();
    }

    private static void winds() {
        check.due("bare", new RainAccount().bestWind(0), -3);
        check.due("bare outside", new RainAccount().bestWind(2), -2);
        RainAccount r = Check.with("092;193");
        check.due("what", r.bestWind(2), -2);
        check.due("what", r.bestWind(-1), -2);
        check.due("all alike: the least", r.bestWind(0), 7);
        check.due("nothing", r.bestWind(1), 0);
        r.cloud(-4, 9, 2);
        r.shot(0, 1, 5, 4);
        r.set(0, 3);
        check.due("to field 1 in hour 5", r.bestWind(0), 11);
        check.due("yield", r.bestWind(1), 12);
        check.due("the wind stays", r.many(3), 13);
        check.due("and what falls", r.harvest(-1), 0);
        r.shot(0, 0, 2, 4);
        check.due("to field 0 in hour 2, or 1", r.bestWind(0), 11);
        RainAccount far = Check.with("092;193");
        far.cloud(20, 9, 2);
        far.shot(0, 0, 10, 2);
        check.due("the way back", far.bestWind(0), 8);
        far.back(1);
        far.cloud(-3, 9, 2);
        far.shot(0, 0, 1, 2);
        check.due("the strongest", far.bestWind(0), 13);
        check.due("yield", far.bestWind(1), 4);
    }

    private static void missed() {
        RainAccount r = Check.with("092;193;011");
        r.cloud(0, 5, 1);
        r.cloud(1, 9, 1);
        r.shot(0, 0, 0, 2);
        r.shot(0, 1, 0, 3);
        r.shot(2, 1, 1, 3);
        Check.write(r, 0, 2, 9, 2, 5, 0, 0);
        check.due("all were fired", r.missed(0, 2, 1), 1 << 8);
        r.put(0, 1, 0);
        check.due("shot 0 was not", r.missed(0, 2, 1), 1);
        Check.write(r, 0, 0, 2, 3, 0);
        check.due("the bomb was not", r.missed(0, 0, 0), 4);
        Check.write(r, 0, 1, 2, 2, 0);
        check.due("shot 1 was not", r.missed(0, 1, 0), 2);
        r.put(0, 2, 1);
        check.due("none of them", r.missed(0, 1, 0), 0);
        r.put(0, 2, 0);
        r.put(0, 1, 5);
        r.shot(0, 2, 5, 9);
        check.due("one that does nothing", r.missed(0, 1, 0), 8 | 1 << 8);
    }

    private static void faults() {
        RainAccount r = new RainAccount();
        check.due("sheet", r.missed(4, 3, -1), -1);
        check.due("sheet", r.missed(-1, 0, 0), -1);
        check.due("sort", r.missed(0, 3, 0), -2);
        check.due("sort", r.missed(0, -1, 0), -2);
        check.due("nothing", r.missed(0, 0, -1), -11);
        check.due("null", r.fault(), 1);
        r.sheet(0, 0, 2);
        check.due("cast", r.missed(0, 1, -1), -12);
        check.due("cast", r.fault(), 2);
        check.due("ahead", r.missed(0, 0, -1), -13);
        check.due("index", r.fault(), 3);
        check.due("behind", r.missed(0, 0, 3), -13);
        check.due("bare, of no cells", r.missed(0, 0, 2), -3);
        check.due("no fault", r.fault(), 0);
        Check.plain(r, "092;193");
        check.due("too few", r.missed(0, 0, 1), -13);
        check.due("index", r.fault(), 3);
        check.due("far", r.missed(0, 0, Integer.MAX_VALUE), -13);
        check.due("just enough", r.missed(0, 0, 0), 1 << 8);
        check.due("no fault", r.fault(), 0);
    }
}
