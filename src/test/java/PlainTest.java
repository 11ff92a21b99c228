/** Promises 1 to 9, and 32. */
public final class PlainTest {
    private static final Check check = new Check();

    public static void main(String[] args) {
        newObject();
        texts();
        faultsOfTexts();
        anew();
        fields();
        settings();
        clouds();
        shots();
        check.end();
    }

    private static void newObject() {
        RainAccount r = new RainAccount();
        for (int what = 0; what < 6; what++) {
            check.due("new many(" + what + ")", r.many(what), 0);
        }
        check.due("new many(-1)", r.many(-1), -2);
        check.due("new many(6)", r.many(6), -2);
        for (int k = 0; k < 4; k++) {
            check.due("new lose", r.lose(k), 0);
        }
        check.due("new trace", r.trace(), 0);
        check.due("new fault", r.fault(), 0);
        check.due("new ofField", r.ofField(0, 0), -1);
        check.due("new ofShot", r.ofShot(0, 0), -1);
        check.due("new ofCloud", r.ofCloud(0, 0, 0), -1);
        check.due("new back(0)", r.back(0), 0);
        check.due("new back(1)", r.back(1), -2);
    }

    private static void texts() {
        RainAccount r = new RainAccount();
        String eight = "000;199;299;399;012;123;234;345";
        check.due("two", Check.plain(r, "012;345"), 2);
        check.due("eight", Check.plain(r, eight), 8);
        text(r, "", 0);
        text(r, "0", 1);
        text(r, "012", 3);
        text(r, "012;", 4);
        text(r, "012;34", 6);
        text(r, "012;345;", 8);
        text(r, "412;345", 0);
        text(r, "/12;345", 0);
        text(r, "0:2;345", 1);
        text(r, "0/2;345", 1);
        text(r, "01;;345", 2);
        text(r, "012:345", 3);
        text(r, "012;;45", 4);
        text(r, "012;4", 4);
        text(r, "012;3450", 7);
        text(r, eight + ";", 31);
        text(r, eight + ";000", 31);
        text(r, eight + "0", 31);
        check.due("the old plain stays", r.many(0), 8);
    }

    private static void text(RainAccount r, String text, int place) {
        check.due("plain of " + text, Check.plain(r, text), -100 - place);
        check.due("fault of a text", r.fault(), 0);
    }

    private static void faultsOfTexts() {
        RainAccount r = new RainAccount();
        check.due("sheet 4", r.plain(4, 3, 0, -1), -1);
        check.due("sheet -1", r.plain(-1, 0, 0, 7), -1);
        check.due("sort 3", r.plain(0, 3, 0, -1), -2);
        check.due("sort -1", r.plain(0, -1, 0, -1), -2);
        check.due("nothing", r.plain(0, 1, -1, -1), -11);
        check.due("fault", r.fault(), 1);
        Check.write(r, 0, 1, "xx012;345yy".chars().toArray());
        check.due("cast", r.plain(0, 0, -1, -1), -12);
        check.due("fault", r.fault(), 2);
        check.due("size", r.plain(0, 1, -1, -1), -14);
        check.due("fault", r.fault(), 4);
        check.due("index", r.plain(0, 1, -1, 0), -13);
        check.due("fault", r.fault(), 3);
        check.due("index behind", r.plain(0, 1, 12, 0), -13);
        check.due("none at the end", r.plain(0, 1, 11, 0), -100);
        check.due("fault", r.fault(), 0);
        check.due("too many", r.plain(0, 1, 4, 8), -13);
        check.due("far", r.plain(0, 1, 1, Integer.MAX_VALUE), -13);
        check.due("farther", r.plain(0, 1, Integer.MAX_VALUE, 1), -13);
        check.due("refused", r.plain(9, 1, 4, 8), -1);
        check.due("fault of a refusal", r.fault(), 0);
        check.due("shorts", r.plain(0, 1, 2, 7), 2);
        Check.write(r, 1, 2, 48 + 256, 49, 50, 59, 49, 49, 49);
        check.due("a wide code", r.plain(1, 2, 0, 7), -100);
        Check.write(r, 1, 0, 48 + 256, 49, 50, 59, 49, 49, 49);
        check.due("a cut code", r.plain(1, 0, 0, 7), 2);
    }

    private static void anew() {
        RainAccount r = Check.with("012;345");
        r.set(0, 2);
        r.set(1, 3);
        r.set(2, 5);
        r.cloud(0, 9, 9);
        r.shot(2, 0, 0, 9);
        r.tell(0);
        int trace = r.trace();
        check.due("bad text", Check.plain(r, "012"), -103);
        int[] as = {2, 1, 1, 12, 3, 5};
        for (int what = 0; what < 6; what++) {
            check.due("many(" + what + ") stays", r.many(what), as[what]);
        }
        Check.write(r, 0, 2, 77);
        check.due("new text", Check.plain(r, "111;111;111"), 3);
        int[] then = {3, 0, 0, 10, 0, 0};
        for (int what = 0; what < 6; what++) {
            check.due("many(" + what + ") anew", r.many(what), then[what]);
        }
        check.due("trace stays", r.trace(), trace);
        check.due("sheets stay", r.cell(0, 0, 2), 77);
        check.due("no fault", r.fault(), 0);
    }

    private static void fields() {
        RainAccount r = Check.with("012;345;069");
        int[][] want = {{0, 1, 2}, {3, 4, 5}, {0, 6, 9}};
        for (int f = 0; f < 3; f++) {
            for (int what = 0; what < 3; what++) {
                check.due("ofField", r.ofField(f, what), want[f][what]);
            }
        }
        check.due("ofField(3, 9)", r.ofField(3, 9), -1);
        check.due("ofField(-1, 0)", r.ofField(-1, 0), -1);
        check.due("ofField(0, 3)", r.ofField(0, 3), -2);
        check.due("ofField(0, -1)", r.ofField(0, -1), -2);
    }

    private static void settings() {
        RainAccount bare = new RainAccount();
        check.due("set bare", bare.set(0, 0), -3);
        check.due("set bare outside", bare.set(0, 4), -2);
        RainAccount r = Check.with("012;345");
        check.due("wind", r.set(0, -3), 10);
        check.due("wind", r.set(0, 3), 7);
        check.due("wind", r.set(0, 0), 13);
        check.due("wind 4", r.set(0, 4), -2);
        check.due("wind -4", r.set(0, -4), -2);
        check.due("low", r.set(1, 9), 0);
        check.due("low", r.set(1, 0), 9);
        check.due("low 10", r.set(1, 10), -2);
        check.due("low -1", r.set(1, -1), -2);
        check.due("forbidden", r.set(2, 4095), 0);
        check.due("forbidden", r.set(2, 1), 4095);
        check.due("forbidden 4096", r.set(2, 4096), -2);
        check.due("forbidden -1", r.set(2, -1), -2);
        check.due("what 3", r.set(3, 0), -2);
        check.due("what -1", r.set(-1, 0), -2);
        check.due("many(3)", r.many(3), 10);
        check.due("many(4)", r.many(4), 0);
        check.due("many(5)", r.many(5), 1);
    }

    private static void clouds() {
        check.due("cloud bare", new RainAccount().cloud(0, 1, 1), -3);
        check.due("cloud bare outside", new RainAccount().cloud(21, 1, 1), -2);
        RainAccount r = Check.with("055;155");
        int[][] bad = {{21, 1, 1}, {-21, 1, 1}, {0, 0, 1}, {0, 31, 1}, {0, 1, 0}, {0, 1, 10}};
        for (int[] b : bad) {
            check.due("bad cloud", r.cloud(b[0], b[1], b[2]), -2);
        }
        check.due("cloud", r.cloud(-20, 1, 1), 0);
        check.due("cloud", r.cloud(20, 30, 9), 1);
        for (int c = 2; c < 6; c++) {
            check.due("cloud", r.cloud(0, 3, c), c);
        }
        check.due("seventh", r.cloud(0, 1, 1), -4);
        check.due("seventh outside", r.cloud(0, 0, 1), -2);
        check.due("clouds", r.many(1), 6);
        r.set(0, -3);
        check.due("far left", r.ofCloud(0, 11, 0), 100 - 20 - 33);
        check.due("far right at first", r.ofCloud(1, 0, 0), 120);
        check.due("high", r.ofCloud(1, 5, 2), 9);
        check.due("wet", r.ofCloud(1, 11, 1), 30);
        check.due("no cloud", r.ofCloud(6, 12, 3), -1);
        check.due("no cloud", r.ofCloud(-1, 0, 0), -1);
        check.due("hour 12", r.ofCloud(0, 12, 0), -2);
        check.due("hour -1", r.ofCloud(0, -1, 0), -2);
        check.due("what 3", r.ofCloud(0, 0, 3), -2);
        check.due("what -1", r.ofCloud(0, 0, -1), -2);
        wetness();
    }

    private static void wetness() {
        RainAccount r = Check.with("055;155");
        r.set(1, 4);
        r.cloud(0, 6, 4);
        r.shot(0, 0, 2, 4);
        int[] wet = {6, 5, 4, 0, 0};
        for (int hour = 0; hour < wet.length; hour++) {
            check.due("wet as hour " + hour + " begins", r.ofCloud(0, hour, 1), wet[hour]);
        }
    }

    private static void shots() {
        RainAccount r = Check.with("055;155");
        check.due("no field", r.shot(3, 2, 12, 0), -1);
        check.due("no field", r.shot(0, -1, 0, 1), -1);
        int[][] bad = {{-1, 0, 0, 1}, {3, 0, 0, 1}, {0, 0, -1, 1}, {0, 0, 12, 1}, {0, 0, 0, 0}, {0, 0, 0, 10}};
        for (int[] b : bad) {
            check.due("bad shot", r.shot(b[0], b[1], b[2], b[3]), -2);
        }
        check.due("shot", r.shot(0, 1, 11, 9), 0);
        check.due("rocket", r.shot(1, 0, 3, 8), 1);
        check.due("bomb", r.shot(2, 1, 0, 7), 2);
        int[][] want = {{0, 1, 11, 9, 9}, {1, 0, 3, 8, 16}, {2, 1, 0, 7, 14}};
        for (int s = 0; s < 3; s++) {
            for (int what = 0; what < 5; what++) {
                check.due("ofShot", r.ofShot(s, what), want[s][what]);
            }
        }
        check.due("ofShot(3, 9)", r.ofShot(3, 9), -1);
        check.due("ofShot(-1, 0)", r.ofShot(-1, 0), -1);
        check.due("ofShot(0, 5)", r.ofShot(0, 5), -2);
        check.due("ofShot(0, -1)", r.ofShot(0, -1), -2);
        for (int s = 3; s < 8; s++) {
            check.due("shot", r.shot(0, 0, 0, 1), s);
        }
        check.due("ninth", r.shot(0, 0, 0, 1), -4);
        check.due("ninth outside", r.shot(0, 0, 0, 10), -2);
        check.due("ninth unknown", r.shot(0, 2, 0, 1), -1);
        check.due("back 0", r.back(0), 8);
        check.due("back 9", r.back(9), -2);
        check.due("back -1", r.back(-1), -2);
        check.due("back 6", r.back(6), 2);
        check.due("gone", r.ofShot(2, 0), -1);
        check.due("stays", r.ofShot(1, 3), 8);
        check.due("again", r.shot(1, 1, 1, 1), 2);
        check.due("back all", r.back(3), 0);
        check.due("none", r.many(2), 0);
    }
}
