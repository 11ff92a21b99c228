/** Promises 22 to 26, 30 and 31. */
public final class SheetsTest {
    private static final Check check = new Check();

    public static void main(String[] args) {
        rows();
        cells();
        copies();
        faultsThatStay();
        check.end();
    }

    private static void rows() {
        RainAccount r = new RainAccount();
        check.due("sheet 4", r.sheet(4, 3, 41), -1);
        check.due("sheet -1", r.sheet(-1, 0, 1), -1);
        check.due("sort 3", r.sheet(0, 3, -1), -2);
        check.due("sort -1", r.sheet(0, -1, 1), -2);
        check.due("41", r.sheet(0, 0, 41), -2);
        check.due("no fault", r.fault(), 0);
        check.due("-1", r.sheet(0, 0, -1), -14);
        check.due("size", r.fault(), 4);
        check.due("nothing yet", r.lose(0), 0);
        check.due("0", r.sheet(0, 0, 0), 1);
        check.due("no size", r.fault(), 0);
        check.due("lose an empty row", r.lose(0), 1);
        check.due("lose nothing", r.lose(0), 0);
        check.due("lose 4", r.lose(4), -1);
        check.due("lose -1", r.lose(-1), -1);
        check.due("40", r.sheet(0, 2, 40), 1);
        check.due("put", r.put(0, 39, 5), 1);
        check.due("a size fault", r.sheet(0, 2, -5), -14);
        check.due("the row stays", r.cell(0, 39, 2), 5);
        check.due("anew", r.sheet(0, 2, 40), 1);
        check.due("zeros", r.cell(0, 39, 2), 0);
        check.due("losing", r.lose(0), 1);
        check.due("anew", r.sheet(0, 1, 40), 1);
        check.due("zeros", r.cell(0, 39, 1), 0);
    }

    private static void cells() {
        RainAccount r = new RainAccount();
        int[] values = {0, 127, 128, -129, 32767, 32768, -32769, Integer.MAX_VALUE, Integer.MIN_VALUE};
        for (int v : values) {
            Check.write(r, 0, 0, v);
            check.due("byte " + v, r.cell(0, 0, 0), (byte) v);
            Check.write(r, 0, 1, v);
            check.due("short " + v, r.cell(0, 0, 1), (short) v);
            Check.write(r, 0, 2, v);
            check.due("int " + v, r.cell(0, 0, 2), v);
        }
        check.due("put 4", r.put(4, 9, 0), -1);
        check.due("put -1", r.put(-1, 0, 0), -1);
        check.due("put nothing", r.put(1, 0, 0), -11);
        check.due("null", r.fault(), 1);
        check.due("put behind", r.put(0, 1, 0), -13);
        check.due("index", r.fault(), 3);
        check.due("put ahead", r.put(0, -1, 0), -13);
        check.due("put there", r.put(0, 0, 3), 1);
        check.due("none", r.fault(), 0);
        long lost = Long.MIN_VALUE;
        check.due("cell 4", r.cell(4, 0, 0), lost);
        check.due("none", r.fault(), 0);
        check.due("cell sort 3", r.cell(0, 0, 3), lost);
        check.due("cell sort -1", r.cell(0, 0, -1), lost);
        check.due("none", r.fault(), 0);
        check.due("cell of nothing", r.cell(1, 0, 0), lost);
        check.due("null", r.fault(), 1);
        check.due("cell cast", r.cell(0, 7, 0), lost);
        check.due("cast", r.fault(), 2);
        check.due("cell behind", r.cell(0, 1, 2), lost);
        check.due("index", r.fault(), 3);
        check.due("cell ahead", r.cell(0, -1, 2), lost);
        check.due("index", r.fault(), 3);
        check.due("cell", r.cell(0, 0, 2), 3);
        check.due("none", r.fault(), 0);
    }

    private static void copies() {
        RainAccount r = new RainAccount();
        Check.write(r, 0, 2, 1, 2, 3, 4, 5);
        check.due("to 4", r.copy(0, 0, 4, 0, 0), -1);
        check.due("of -1", r.copy(-1, 0, 0, 0, 0), -1);
        check.due("to nothing", r.copy(0, -1, 1, 0, 0), -11);
        check.due("of nothing", r.copy(1, -1, 0, 0, 0), -11);
        check.due("of nothing to nothing", r.copy(1, 0, 1, 0, 0), -11);
        check.due("null", r.fault(), 1);
        r.sheet(1, 1, 9);
        check.due("cast", r.copy(0, -1, 1, 0, 0), -12);
        check.due("cast", r.fault(), 2);
        r.sheet(1, 2, 3);
        int[][] bad = {
            {-1, 0, 0}, {0, -1, 0}, {0, 0, -1}, {6, 0, 0}, {0, 4, 0}, {0, 0, 4}, {3, 0, 3}, {0, 1, 3},
            {1, 1, Integer.MAX_VALUE}, {Integer.MAX_VALUE, 0, 1}, {0, Integer.MAX_VALUE, 1},
        };
        for (int[] b : bad) {
            check.due("bad copy", r.copy(0, b[0], 1, b[1], b[2]), -13);
            check.due("index", r.fault(), 3);
        }
        check.due("none at the ends", r.copy(0, 5, 1, 3, 0), 0);
        check.due("none", r.fault(), 0);
        check.due("copy", r.copy(0, 2, 1, 1, 2), 2);
        row(r, 1, 0, 3, 4);
        check.due("forwards in itself", r.copy(0, 0, 0, 1, 4), 4);
        row(r, 0, 1, 1, 2, 3, 4);
        Check.write(r, 0, 2, 1, 2, 3, 4, 5);
        check.due("backwards in itself", r.copy(0, 1, 0, 0, 4), 4);
        row(r, 0, 2, 3, 4, 5, 5);
    }

    private static void row(RainAccount r, int k, int... want) {
        for (int i = 0; i < want.length; i++) {
            check.due("cell " + i, r.cell(k, i, 2), want[i]);
        }
    }

    /** Calls that name no faults leave what the latest one that does came to. */
    private static void faultsThatStay() {
        RainAccount r = Check.with("055;155");
        r.shot(0, 0, 0, 1);
        check.due("cast", r.as(0, 1), -12);
        r.lose(0);
        r.lose(9);
        r.tell(0);
        r.load(0);
        r.many(9);
        r.yields(9);
        r.set(9, 9);
        r.trace();
        r.idle(0);
        r.bestWind(0);
        r.shot(0, 9, 9, 9);
        check.due("fault stays", r.fault(), 2);
        check.due("fault stays", r.fault(), 2);
        r.cell(9, 0, 0);
        check.due("a refusal of one that names faults", r.fault(), 0);
    }
}
