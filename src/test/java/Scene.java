/** Objects to be called: without a plain, with some of all, and with as much of all as there can be. */
enum Scene {
    BARE(0, 0, 0),
    SOME(3, 2, 4),
    FULL(8, 6, 8);

    static final int CAST = 2, SIZE = 4;
    static final int BYTES = 1, BYTE_CELLS = 11;
    static final int INTS = 2, INT_CELLS = 9;
    static final int MORE_INTS = 3, MORE_INT_CELLS = 10;
    private static final String FIELDS = "092;183;074;365;256;047;138;329";

    final int fields;
    final int clouds;
    final int shots;

    Scene(int fields, int clouds, int shots) {
        this.fields = fields;
        this.clouds = clouds;
        this.shots = shots;
    }

    /** The object; its latest fault is CAST or SIZE. Sheet 0 has nothing. */
    RainAccount make(int fault) {
        RainAccount r = new RainAccount();
        if (this != BARE) {
            Check.plain(r, FIELDS.substring(0, fields * 4 - 1));
            r.set(0, 1);
            r.set(1, 2);
            r.set(2, 1 | 1 << 5);
            fire(r);
        }
        writeSheets(r);
        if (fault == CAST) {
            r.cell(BYTES, 0, 2);
        } else {
            r.sheet(0, 0, -1);
        }
        return r;
    }

    private void fire(RainAccount r) {
        for (int c = 0; c < clouds; c++) {
            r.cloud(c - 1, 7 + c, 1 + c % 3);
        }
        for (int s = 0; s < shots; s++) {
            r.shot(s % 3, s % fields, s % 4, 2 + s % 5);
            r.tell(s);
        }
    }

    private static void writeSheets(RainAccount r) {
        Check.write(r, BYTES, 0, "xx012;345yy".chars().toArray());
        Check.write(r, INTS, 2, 1, -2, 3, -4, 5, -6, 7, -8, 9);
        Check.write(r, MORE_INTS, 2, 10, 20, 30, 40, 50, 60, 70, 80, 90, 100);
    }
}
