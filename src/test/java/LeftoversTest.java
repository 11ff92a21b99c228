import java.util.ArrayList;
import java.util.List;

/** Questions leave nothing behind, and see each change: what was asked ahead of one another changes no answer. */
public final class LeftoversTest {
    private interface Question {
        long on(RainAccount r);
    }

    private interface Change {
        void on(RainAccount r);
    }

    private static final Check check = new Check();
    private static final List<Question> QUESTIONS = questions();
    private static final List<Change> CHANGES = changes();

    public static void main(String[] args) {
        for (Scene scene : Scene.values()) {
            oneAheadOfAnother(scene);
            changesAreSeen(scene);
        }
        takenBack();
        restAheadOfNone();
        check.end();
    }

    private static List<Question> questions() {
        List<Question> all = new ArrayList<>();
        all.add(r -> r.ofCloud(0, 11, 1));
        all.add(r -> r.fell(0, 0, 0));
        all.add(r -> r.fell(1, 11, 0));
        all.add(r -> r.fell(2, 11, 1));
        all.add(r -> r.by(2, 0));
        all.add(r -> r.by(3, 1));
        all.add(r -> r.yields(1));
        all.add(r -> r.harvest(-1));
        all.add(r -> r.harvest(0));
        all.add(r -> r.brought(0, -1));
        all.add(r -> r.brought(2, 0));
        all.add(r -> r.due(1, 1));
        all.add(r -> r.idle(0));
        all.add(r -> r.idle(1));
        all.add(r -> r.oneMore(-1, 3, 0) * 100 + r.oneMore(-1, 3, 1) * 12 + r.oneMore(-1, 3, 2));
        all.add(r -> r.oneMore(1, 9, 0) * 100 + r.oneMore(1, 9, 1) * 12 + r.oneMore(1, 9, 2));
        all.add(r -> r.awaited(3, 0));
        all.add(r -> r.awaited(10, 0));
        all.add(r -> r.awaited(7, 1));
        all.add(r -> r.rests(0, 1, 3, 0) * 10000L + r.rests(0, 1, 3, 1));
        all.add(r -> r.rests(1, 0, 9, 0) * 10000L + r.rests(1, 0, 9, 1));
        all.add(r -> r.rests(2, 3, 1, 0) * 10000L + r.rests(2, 3, 1, 1));
        all.add(r -> r.bestWind(0) * 1000 + r.bestWind(1));
        all.add(r -> r.missed(Scene.INTS, 2, 0));
        return all;
    }

    private static List<Change> changes() {
        List<Change> all = new ArrayList<>();
        all.add(r -> r.set(0, -2));
        all.add(r -> r.set(1, 9));
        all.add(r -> r.set(2, 4095));
        all.add(r -> r.set(2, 4095 - 8));
        all.add(r -> r.cloud(1, 30, 1));
        all.add(r -> r.shot(2, 0, 1, 9));
        all.add(r -> r.back(1));
        all.add(r -> r.back(4));
        all.add(r -> r.back(r.many(2)));
        all.add(r -> r.plain(Scene.BYTES, 0, 2, 7));
        all.add(LeftoversTest::tellWhatFell);
        return all;
    }

    private static void tellWhatFell(RainAccount r) {
        for (int f = 0; f < r.many(0); f++) {
            r.put(Scene.INTS, f, r.fell(f, 11, 0));
        }
    }

    private static void oneAheadOfAnother(Scene scene) {
        for (int first = 0; first < QUESTIONS.size(); first++) {
            for (int then = 0; then < QUESTIONS.size(); then++) {
                RainAccount asked = scene.make(Scene.CAST);
                QUESTIONS.get(first).on(asked);
                long want = QUESTIONS.get(then).on(scene.make(Scene.CAST));
                check.due(scene + ": question " + then + " behind " + first, QUESTIONS.get(then).on(asked), want);
            }
        }
    }

    private static void changesAreSeen(Scene scene) {
        for (int k = 0; k < CHANGES.size(); k++) {
            RainAccount asked = scene.make(Scene.CAST);
            for (Question q : QUESTIONS) {
                q.on(asked);
            }
            CHANGES.get(k).on(asked);
            for (int q = 0; q < QUESTIONS.size(); q++) {
                RainAccount fresh = scene.make(Scene.CAST);
                CHANGES.get(k).on(fresh);
                long want = QUESTIONS.get(q).on(fresh);
                check.due(scene + ": question " + q + " behind change " + k, QUESTIONS.get(q).on(asked), want);
            }
        }
    }

    /** Shots that are taken back are as if they had never been. */
    private static void takenBack() {
        check.says("The last k SHOTS (0 .. as many as there are) are taken back: how many are left.");
        for (int left = 0; left <= 8; left++) {
            for (int q = 0; q < QUESTIONS.size(); q++) {
                RainAccount once = fired(left);
                for (int s = left; s < 8; s++) {
                    once.shot(2, s % 4, s % 2, 9);
                }
                once.back(8 - left);
                long want = QUESTIONS.get(q).on(fired(left));
                check.due("question " + q + ", " + left + " left", QUESTIONS.get(q).on(once), want);
            }
        }
    }

    private static RainAccount fired(int shots) {
        RainAccount r = Check.with("099;199;099;199");
        for (int c = 0; c < 4; c++) {
            r.cloud(c, 9, 1 + c);
        }
        for (int s = 0; s < shots; s++) {
            r.shot(0, s % 4, 1 + s % 2, 2);
        }
        return r;
    }

    private static void restAheadOfNone() {
        check.says("the first (1; NONE).");
        RainAccount r = Check.with("031;131;022");
        check.due("all rest", r.rests(0, 1, 3, 0), 25 * 13);
        check.due("the first", r.rests(0, 1, 3, 1), 12);
        r.set(0, 1);
        r.cloud(-2, 3, 2);
        r.cloud(0, 1, 3);
        check.due("none rests", r.rests(0, 1, 3, 0), 0);
        check.due("no first", r.rests(0, 1, 3, 1), -9);
    }
}
