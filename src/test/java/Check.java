/** Counts the answers that are not as due, and puts texts and numbers on sheets. */
final class Check {
    private int wrong = 0;

    void due(String call, long got, long want) {
        if (got != want) {
            wrong++;
            System.out.println(call + " answered " + got + ", due is " + want);
        }
    }

    /** Ends the test: with 1 if there was a wrong answer. */
    void end() {
        if (wrong != 0) {
            System.exit(1);
        }
    }

    static void write(RainAccount r, int sheet, int sort, int... cells) {
        r.sheet(sheet, sort, cells.length);
        for (int i = 0; i < cells.length; i++) {
            r.put(sheet, i, cells[i]);
        }
    }

    static int plain(RainAccount r, String text) {
        write(r, 3, 0, text.chars().toArray());
        return r.plain(3, 0, 0, text.length());
    }

    static RainAccount with(String text) {
        RainAccount r = new RainAccount();
        plain(r, text);
        return r;
    }
}
