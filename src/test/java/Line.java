import java.util.ArrayList;
import java.util.Arrays;
import java.util.List;

/**
 * One call's line of the document: arguments that are taken, and the ways in which its line refuses others, in its
 * order. Every mix of these ways is tried: the first one answers, nothing changes, and fault() is as it tells.
 */
final class Line {
    interface Call {
        long on(RainAccount r, int[] a);
    }

    /** A way: one argument has one of the values; or no argument at all, where it is so anyway. */
    private record Way(int arg, int[] values, long answer, int fault) {
    }

    private static final int STAYS = -1, ANYWAY = -1;

    private final Check check;
    private final String name;
    private final Scene scene;
    private final boolean namesFaults;
    private final Call call;
    private final int[] taken;
    private final List<Way> ways = new ArrayList<>();
    private boolean longs = false;

    private Line(Check check, String name, Scene scene, boolean namesFaults, Call call, int[] taken) {
        this.check = check;
        this.name = name;
        this.scene = scene;
        this.namesFaults = namesFaults;
        this.call = call;
        this.taken = taken;
    }

    /** Of a call that names faults. */
    static Line faulty(Check check, String name, Scene scene, Call call, int... taken) {
        return new Line(check, name, scene, true, call, taken);
    }

    /** Of a call that names none. */
    static Line plain(Check check, String name, Scene scene, Call call, int... taken) {
        return new Line(check, name, scene, false, call, taken);
    }

    /** It answers a long: all its refusals and faults are LOST. */
    Line ofLongs() {
        longs = true;
        return this;
    }

    private long answerOf(long refusal) {
        return longs ? RainAccount.LOST : refusal;
    }

    private int faultOfRefusals() {
        return namesFaults ? 0 : STAYS;
    }

    /** An argument is least .. most: these are taken, those next to them are refused. */
    Line within(int arg, long refusal, int least, int most) {
        long answer = answerOf(refusal);
        boolean refusedAnyway = ways.stream().anyMatch(way -> way.arg == ANYWAY && way.answer == answer);
        for (int v : new int[] {least, most}) {
            int[] a = taken.clone();
            a[arg] = v;
            long got = call.on(scene.make(Scene.CAST), a);
            check.yes(told(a) + " answered " + got + ", but is not refused so", refusedAnyway || got != answer);
        }
        return refused(arg, refusal, least - 1, most + 1, Integer.MIN_VALUE, Integer.MAX_VALUE);
    }

    /** An argument may not be one of these. */
    Line refused(int arg, long refusal, int... values) {
        ways.add(new Way(arg, values, answerOf(refusal), faultOfRefusals()));
        return this;
    }

    /** With such an argument it comes to a fault. */
    Line fault(int fault, int arg, int... values) {
        ways.add(new Way(arg, values, answerOf(-10 - fault), fault));
        return this;
    }

    /** Here it is refused so whatever the arguments, if nothing that is told ahead refuses it. */
    Line anyway(long refusal) {
        ways.add(new Way(ANYWAY, new int[1], answerOf(refusal), faultOfRefusals()));
        return this;
    }

    /** The call as it is taken changes nothing, too. */
    Line asks() {
        for (int before : new int[] {Scene.CAST, Scene.SIZE}) {
            RainAccount r = scene.make(before);
            call.on(r, taken);
            check.same(told(taken), Sight.of(r), due(before, faultOfRefusals()));
        }
        return this;
    }

    void holds() {
        mix(0, taken.clone(), new boolean[taken.length], null);
    }

    private void mix(int way, int[] a, boolean[] set, Way first) {
        if (way == ways.size()) {
            if (first != null) {
                attempt(a, first);
            }
            return;
        }
        Way now = ways.get(way);
        Way then = first == null ? now : first;
        if (now.arg == ANYWAY) {
            mix(way + 1, a, set, then);
            return;
        }
        mix(way + 1, a, set, first);
        if (!set[now.arg]) {
            int was = a[now.arg];
            set[now.arg] = true;
            for (int v : now.values) {
                a[now.arg] = v;
                mix(way + 1, a, set, then);
            }
            a[now.arg] = was;
            set[now.arg] = false;
        }
    }

    private void attempt(int[] a, Way first) {
        for (int before : new int[] {Scene.CAST, Scene.SIZE}) {
            RainAccount r = scene.make(before);
            check.due(told(a), call.on(r, a), first.answer);
            check.same(told(a), Sight.of(r), due(before, first.fault));
        }
    }

    private String due(int before, int fault) {
        String unlike = Sight.of(scene.make(before));
        return Sight.withFault(unlike, fault == STAYS ? before : fault);
    }

    private String told(int[] a) {
        return scene + ": " + name + Arrays.toString(a);
    }
}
