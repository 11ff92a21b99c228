/** Promises 27 to 30. */
public final class PartsTest {
    private static final Check check = new Check();

    public static void main(String[] args) {
        told();
        loaded();
        wraps();
        taken();
        check.end();
    }

    private static RainAccount three() {
        RainAccount r = Check.with("055;155");
        r.shot(0, 0, 0, 4);
        r.shot(1, 0, 0, 5);
        r.shot(2, 0, 0, 6);
        return r;
    }

    private static int after(int... numbers) {
        int trace = 0;
        for (int n : numbers) {
            trace = 31 * trace + n;
        }
        return trace;
    }

    private static void told() {
        RainAccount r = three();
        check.due("shot", r.tell(0), 4);
        check.due("trace", r.trace(), after(1));
        check.due("rocket", r.tell(1), 105);
        check.due("trace", r.trace(), after(1, 2, 1));
        check.due("bomb", r.tell(2), 112);
        check.due("trace", r.trace(), after(1, 2, 1, 3, 2, 1, 1));
        check.due("none", r.tell(3), -1);
        check.due("none", r.tell(-1), -1);
        check.due("trace", r.trace(), after(1, 2, 1, 3, 2, 1, 1));
    }

    private static void loaded() {
        RainAccount r = three();
        check.due("shot", r.load(0), 0);
        check.due("trace", r.trace(), after(4));
        check.due("rocket", r.load(1), 1);
        check.due("trace", r.trace(), after(4, 4));
        check.due("bomb", r.load(2), 80);
        check.due("trace", r.trace(), after(4, 4, 5));
        check.due("none", r.load(3), -1);
        check.due("none", r.load(-1), -1);
        check.due("trace", r.trace(), after(4, 4, 5));
    }

    private static void wraps() {
        RainAccount r = three();
        int trace = 0;
        for (int k = 0; k < 40; k++) {
            r.tell(1);
            trace = 31 * (31 * trace + 2) + 1;
            check.due("trace that wraps", r.trace(), trace);
        }
    }

    private static void taken() {
        RainAccount r = three();
        for (int s = 0; s < 3; s++) {
            for (int kind = 0; kind < 3; kind++) {
                boolean is = s >= kind;
                check.due("as(" + s + ", " + kind + ")", r.as(s, kind), is ? 1 : -12);
                check.due("fault", r.fault(), is ? 0 : 2);
            }
        }
        check.due("no shot", r.as(3, 3), -1);
        check.due("no shot", r.as(-1, 0), -1);
        check.due("kind 3", r.as(0, 3), -2);
        check.due("kind -1", r.as(0, -1), -2);
        check.due("fault", r.fault(), 0);
    }
}
