/** Part 6 of the terms, the faults, and promises 2 and 22 to 26, by the sentences that name a boundary. */
public final class SheetsEdgesTest {
    private static final long LOST = Long.MIN_VALUE;

    private static final Check check = new Check();

    public static void main(String[] args) {
        fourSheets();
        lengths();
        zerosAtFirst();
        cutWithSign();
        sortsOfCells();
        ownCells();
        losing();
        firstAndLastCell();
        cellsOfATextAreThere();
        noCells();
        copiesOfAll();
        copiesEdges();
        asTheyWere();
        copiesWithoutRow();
        copiesOfSorts();
        anotherOrTheSame();
        check.end();
    }

    private static void fourSheets() {
        check.says("SHEETS 0 .. 3 have nothing (at first)");
        RainAccount r = new RainAccount();
        for (int k = 0; k < 4; k++) {
            check.due("lose(" + k + ")", r.lose(k), 0);
            check.due("put(" + k + ", 0, 0)", r.put(k, 0, 0), -11);
            check.due("cell(" + k + ", 0, 0)", r.cell(k, 0, 0), LOST);
            check.due("fault()", r.fault(), 1);
            check.due("copy", r.copy(k, 0, k, 0, 0), -11);
            check.due("plain", r.plain(k, 0, 0, 0), -11);
            check.due("missed", r.missed(k, 0, 0), -11);
        }
        for (int k : new int[] {-1, 4, Integer.MIN_VALUE, Integer.MAX_VALUE}) {
            check.due("lose(" + k + ")", r.lose(k), -1);
            check.due("sheet(" + k + ", 0, 1)", r.sheet(k, 0, 1), -1);
            check.due("put(" + k + ", 0, 0)", r.put(k, 0, 0), -1);
            check.due("cell(" + k + ", 0, 0)", r.cell(k, 0, 0), LOST);
            check.due("fault()", r.fault(), 0);
            check.due("copy from", r.copy(k, 0, 0, 0, 0), -1);
            check.due("copy to", r.copy(0, 0, k, 0, 0), -1);
            check.due("plain", r.plain(k, 0, 0, 0), -1);
            check.due("missed", r.missed(k, 0, 0), -1);
        }
    }

    private static void lengths() {
        check.says("or a row of 0 .. 40 numbers (0 at first)");
        for (int n = -1; n <= 41; n++) {
            RainAccount r = new RainAccount();
            boolean is = n >= 0 && n <= 40;
            check.due("sheet of " + n, r.sheet(1, 1, n), is ? 1 : n < 0 ? -14 : -2);
            check.due("fault()", r.fault(), n < 0 ? 4 : 0);
            check.due("the last cell", r.put(1, n - 1, 7), !is ? -11 : n == 0 ? -13 : 1);
            check.due("the cell behind it", r.put(1, n, 7), is ? -13 : -11);
            check.due("it has a row", r.lose(1), is ? 1 : 0);
        }
        RainAccount far = new RainAccount();
        check.due("least n", far.sheet(0, 0, Integer.MIN_VALUE), -14);
        check.due("greatest n", far.sheet(0, 0, Integer.MAX_VALUE), -2);
        check.due("sort 3", far.sheet(0, 3, -1), -2);
        check.due("sort -1", far.sheet(0, -1, -1), -2);
    }

    private static void zerosAtFirst() {
        check.says("A SHEET gets a new row: 1.");
        RainAccount r = new RainAccount();
        int[] most = new int[40];
        java.util.Arrays.fill(most, -1);
        for (int sort = 0; sort < 3; sort++) {
            Check.write(r, 2, 2, most);
            check.due("a new row", r.sheet(2, sort, 40), 1);
            for (int i = 0; i < 40; i++) {
                check.due("cell " + i + " at first", r.cell(2, i, sort), 0);
            }
            check.due("no more of them", r.cell(2, 40, sort), LOST);
        }
    }

    private static void cutWithSign() {
        check.says("of a SORT: 0 bytes, 1 shorts, 2 ints; "
                + "what comes to a cell of it is cut to its SORT (with its sign)");
        int[] values = {
            0, 1, -1, 127, 128, 129, 255, 256, 257, -127, -128, -129, -255, -256, -257, 32767, 32768, 32769, 65535,
            65536, 65537, -32767, -32768, -32769, -65535, -65536, -65537, Integer.MAX_VALUE, Integer.MIN_VALUE,
            Integer.MAX_VALUE - 128, Integer.MIN_VALUE + 128, 0x12345678, 0x89abcdef,
        };
        for (int v : values) {
            cut(0, v, Math.floorMod(v + 128L, 256) - 128);
            cut(1, v, Math.floorMod(v + 32768L, 65536) - 32768);
            cut(2, v, v);
        }
    }

    private static void cut(int sort, int v, long want) {
        RainAccount r = new RainAccount();
        r.sheet(0, sort, 40);
        for (int i : new int[] {0, 39}) {
            check.due("put " + v, r.put(0, i, v), 1);
            check.due("cell of " + v + ", sort " + sort, r.cell(0, i, sort), want);
        }
        check.due("the cell between", r.cell(0, 20, sort), 0);
    }

    private static void sortsOfCells() {
        check.says("Cell i of what a SHEET has, taken as a row of a SORT. LOST: UNKNOWN, OUTSIDE: sort; "
                + "FAULTS CAST (nothing is no CAST), NULL, INDEX.");
        RainAccount r = new RainAccount();
        for (int sort = 0; sort < 3; sort++) {
            Check.write(r, 0, sort, 5);
            for (int as = -1; as <= 3; as++) {
                boolean outside = as < 0 || as > 2;
                check.due("cell as " + as, r.cell(0, 0, as), as == sort ? 5 : LOST);
                check.due("fault() as " + as, r.fault(), as == sort || outside ? 0 : 2);
                check.due("cell behind as " + as, r.cell(0, 1, as), LOST);
                check.due("fault() behind as " + as, r.fault(), as == sort ? 3 : outside ? 0 : 2);
                check.due("nothing as " + as, r.cell(1, 0, as), LOST);
                check.due("fault() of nothing as " + as, r.fault(), outside ? 0 : 1);
            }
        }
    }

    private static void ownCells() {
        check.says("Cell i of a SHEET becomes v: 1.");
        RainAccount r = new RainAccount();
        for (int k = 0; k < 4; k++) {
            r.sheet(k, 2, 3);
        }
        r.put(2, 1, 9);
        for (int k = 0; k < 4; k++) {
            for (int i = 0; i < 3; i++) {
                check.due("cell " + i + " of " + k, r.cell(k, i, 2), k == 2 && i == 1 ? 9 : 0);
            }
        }
    }

    private static void losing() {
        check.says("A SHEET has nothing: 1; 0: it had nothing. UNKNOWN.");
        RainAccount r = new RainAccount();
        for (int k = 0; k < 4; k++) {
            Check.write(r, k, k % 3, 1 + k);
        }
        r.sheet(3, 0, 0);
        check.due("a fault", r.put(3, 0, 0), -13);
        for (int k = 0; k < 4; k++) {
            check.due("lose(" + k + ")", r.lose(k), 1);
            check.due("lose(" + k + ") again", r.lose(k), 0);
            check.due("fault() stays", r.fault(), 3);
            for (int other = k + 1; other < 3; other++) {
                check.due("the others stay", r.cell(other, 0, other % 3), 1 + other);
            }
            check.due("put", r.put(k, 0, 1), -11);
            check.due("a fault", r.put(3, 0, 0), k == 3 ? -11 : -13);
        }
        check.due("a row again", r.sheet(1, 2, 1), 1);
        check.due("of zeros", r.cell(1, 0, 2), 0);
        check.due("lose(4)", r.lose(4), -1);
        check.due("lose(-1)", r.lose(-1), -1);
    }

    private static void firstAndLastCell() {
        check.says("Cell i of a SHEET becomes v: 1. UNKNOWN; NULL; INDEX.");
        RainAccount r = new RainAccount();
        for (int n : new int[] {0, 1, 2, 39, 40}) {
            r.sheet(0, 2, n);
            for (int i : new int[] {Integer.MIN_VALUE, -1, 0, n - 1, n, 40, Integer.MAX_VALUE}) {
                boolean there = i >= 0 && i < n;
                check.due("put " + i + " of " + n, r.put(0, i, 100 + i), there ? 1 : -13);
                check.due("fault()", r.fault(), there ? 0 : 3);
                check.due("cell " + i + " of " + n, r.cell(0, i, 2), there ? 100 + i : LOST);
                check.due("fault()", r.fault(), there ? 0 : 3);
            }
        }
    }

    private static void cellsOfATextAreThere() {
        check.says("SIZE: n is below 0, INDEX: not all cells are there");
        RainAccount r = new RainAccount();
        Check.write(r, 0, 0, "xx012;345".chars().toArray());
        check.due("to the last cell", r.plain(0, 0, 2, 7), 2);
        check.due("one more", r.plain(0, 0, 2, 8), -13);
        check.due("one on", r.plain(0, 0, 3, 7), -13);
        check.due("fault()", r.fault(), 3);
        check.due("one less", r.plain(0, 0, 2, 6), -106);
        check.due("fault()", r.fault(), 0);
        check.due("n -1", r.plain(0, 0, 2, -1), -14);
        check.due("fault()", r.fault(), 4);
        check.due("least n", r.plain(0, 0, -1, Integer.MIN_VALUE), -14);
        check.due("i -1", r.plain(0, 0, -1, 7), -13);
        check.due("i -1 of none", r.plain(0, 0, -1, 0), -13);
        check.due("a sum that wraps", r.plain(0, 0, 2, Integer.MAX_VALUE), -13);
        check.due("another one", r.plain(0, 0, Integer.MAX_VALUE, Integer.MAX_VALUE), -13);
        check.due("to 0", r.plain(0, 0, Integer.MIN_VALUE, 7), -13);
        Check.write(r, 1, 2, "012;123;230;301;012;123;230;301;;;;;;;;;".chars().toArray());
        check.due("of forty", r.plain(1, 2, 0, 40), -131);
        check.due("of forty-one", r.plain(1, 2, 0, 41), -13);
        check.due("of thirty-one", r.plain(1, 2, 0, 31), 8);
    }

    private static void noCells() {
        check.says("INDEX (of cells from i on also where i is not 0 .. how many there are, "
                + "if none of them is taken, too)");
        RainAccount r = new RainAccount();
        for (int n : new int[] {0, 5, 40}) {
            r.sheet(0, 2, n);
            r.sheet(1, 2, 7);
            for (int i : new int[] {Integer.MIN_VALUE, -1, 0, n, n + 1, 41, Integer.MAX_VALUE}) {
                boolean there = i >= 0 && i <= n;
                check.due("no cells of a text from " + i, r.plain(0, 2, i, 0), there ? -100 : -13);
                check.due("fault()", r.fault(), there ? 0 : 3);
                check.due("no cells missed from " + i, r.missed(0, 2, i), there ? -3 : -13);
                check.due("fault()", r.fault(), there ? 0 : 3);
                check.due("no cells copied from " + i, r.copy(0, i, 1, 7, 0), there ? 0 : -13);
                check.due("fault()", r.fault(), there ? 0 : 3);
                check.due("no cells copied to " + i, r.copy(1, 7, 0, i, 0), there ? 0 : -13);
                check.due("fault()", r.fault(), there ? 0 : 3);
            }
        }
    }

    private static void row(RainAccount r, int k, int sort, int... want) {
        for (int i = 0; i < want.length; i++) {
            check.due("cell " + i + " of " + k, r.cell(k, i, sort), want[i]);
        }
        check.due("behind the row", r.cell(k, want.length, sort), LOST);
    }

    private static void copiesOfAll() {
        check.says("n cells of a SHEET from i on go to another one (perhaps the same) from j on, as they were: n.");
        int[] forty = new int[40];
        for (int i = 0; i < 40; i++) {
            forty[i] = i * 1000 - 7;
        }
        RainAccount r = new RainAccount();
        Check.write(r, 3, 2, forty);
        r.sheet(0, 2, 40);
        check.due("forty", r.copy(3, 0, 0, 0, 40), 40);
        row(r, 0, 2, forty);
        check.due("none", r.copy(3, 5, 0, 6, 0), 0);
        row(r, 0, 2, forty);
        row(r, 3, 2, forty);
        check.due("forty-one", r.copy(3, 0, 0, 0, 41), -13);
    }

    private static void copiesEdges() {
        check.says("INDEX: i, j, n below 0 or beyond");
        for (int i = -1; i <= 6; i++) {
            for (int j = -1; j <= 4; j++) {
                for (int n = -1; n <= 6; n++) {
                    RainAccount r = new RainAccount();
                    Check.write(r, 0, 1, 1, 2, 3, 4, 5);
                    Check.write(r, 1, 1, 7, 8, 9);
                    boolean there = i >= 0 && j >= 0 && n >= 0 && i + n <= 5 && j + n <= 3;
                    String call = "copy(0, " + i + ", 1, " + j + ", " + n + ")";
                    check.due(call, r.copy(0, i, 1, j, n), there ? n : -13);
                    check.due("fault()", r.fault(), there ? 0 : 3);
                    int[] want = {7, 8, 9};
                    for (int x = 0; x < n && there; x++) {
                        want[j + x] = 1 + i + x;
                    }
                    row(r, 1, 1, want);
                    row(r, 0, 1, 1, 2, 3, 4, 5);
                }
            }
        }
        RainAccount far = new RainAccount();
        Check.write(far, 0, 1, 1, 2, 3);
        int most = Integer.MAX_VALUE;
        int least = Integer.MIN_VALUE;
        int[][] bad = {{most, 0, 0}, {0, most, 0}, {0, 0, most}, {1, 1, most}, {most, most, most}, {2, 2, least},
            {least, 0, 0}, {0, least, 0}, {most, 0, 2}, {0, most, 2}, {least, least, least}};
        for (int[] b : bad) {
            check.due("far away", far.copy(0, b[0], 0, b[1], b[2]), -13);
        }
        row(far, 0, 1, 1, 2, 3);
    }

    private static void asTheyWere() {
        check.says("(perhaps the same) from j on, as they were: n.");
        for (int i = 0; i <= 5; i++) {
            for (int j = 0; j <= 5; j++) {
                for (int n = 0; n <= 5 - Math.max(i, j); n++) {
                    RainAccount r = new RainAccount();
                    Check.write(r, 2, 0, 1, 2, 3, 4, 5);
                    check.due("copy in itself", r.copy(2, i, 2, j, n), n);
                    int[] want = {1, 2, 3, 4, 5};
                    for (int x = 0; x < n; x++) {
                        want[j + x] = 1 + i + x;
                    }
                    row(r, 2, 0, want);
                }
            }
        }
    }

    private static void copiesWithoutRow() {
        check.says("FAULTS NULL (the first, the other), CAST (unlike SORTS)");
        RainAccount r = new RainAccount();
        Check.write(r, 1, 0, 1, 2);
        check.due("the first has nothing", r.copy(0, 0, 1, 0, 1), -11);
        check.due("the other has nothing", r.copy(1, 0, 0, 0, 1), -11);
        check.due("both have", r.copy(0, 0, 2, 0, 1), -11);
        check.due("nothing to itself", r.copy(0, 0, 0, 0, 0), -11);
        check.due("fault()", r.fault(), 1);
        r.sheet(0, 2, 4);
        r.lose(0);
        check.due("it had another sort: NULL yet", r.copy(1, 0, 0, 0, 1), -11);
        check.due("an unknown one ahead of it", r.copy(0, 0, 4, 0, 1), -1);
        check.due("fault()", r.fault(), 0);
    }

    private static void copiesOfSorts() {
        check.says("CAST (unlike SORTS)");
        for (int sort = 0; sort < 3; sort++) {
            for (int other = 0; other < 3; other++) {
                RainAccount r = new RainAccount();
                Check.write(r, 0, sort, 1, 2);
                Check.write(r, 1, other, 3, 4);
                check.due("sorts " + sort + ", " + other, r.copy(0, 0, 1, 1, 1), sort == other ? 1 : -12);
                check.due("fault()", r.fault(), sort == other ? 0 : 2);
                check.due("beyond", r.copy(0, 0, 1, 2, 1), sort == other ? -13 : -12);
                check.due("none", r.copy(0, 0, 1, 2, 0), sort == other ? 0 : -12);
                row(r, 1, other, 3, sort == other ? 1 : 4);
            }
        }
    }

    private static void anotherOrTheSame() {
        check.says("n cells of a SHEET from i on go to another one");
        RainAccount r = new RainAccount();
        Check.write(r, 0, 2, 1, 2);
        Check.write(r, 1, 2, 3, 4);
        r.copy(0, 0, 1, 0, 2);
        r.put(0, 0, 9);
        row(r, 1, 2, 1, 2);
        r.put(1, 1, 8);
        row(r, 0, 2, 9, 2);
        r.sheet(0, 0, 2);
        row(r, 1, 2, 1, 8);
    }
}
