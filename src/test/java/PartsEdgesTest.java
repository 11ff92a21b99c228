import java.math.BigInteger;

/** Telling and loading, faults, and promises 27 to 31, by the sentences that name a boundary. */
public final class PartsEdgesTest {
    private static final Check check = new Check();

    public static void main(String[] args) {
        traceWraps();
        asTheyBegin();
        tellsEach();
        rocketsLeftOut();
        loadsEach();
        whatIsTaken();
        faultOfLatest();
        faultsThatStay();
        faultNumbers();
        firstFaultInOrder();
        refusalsInOrder();
        nothingChanges();
        allCalls();
        check.end();
    }

    private static void traceWraps() {
        check.says("TRACE (an int that wraps, 0 at first, becomes 31 times it and the number)");
        RainAccount r = Check.with("011;111");
        check.due("trace at first", r.trace(), 0);
        r.shot(0, 0, 0, 1);
        r.shot(1, 0, 0, 1);
        r.shot(2, 0, 0, 1);
        BigInteger trace = BigInteger.ZERO;
        int below = 0;
        int[][] left = {{1}, {2, 1}, {3, 2, 1, 1}};
        for (int k = 0; k < 95; k++) {
            r.tell(k % 3);
            for (int number : left[k % 3]) {
                trace = trace.multiply(BigInteger.valueOf(31)).add(BigInteger.valueOf(number));
            }
            check.due("trace behind " + (k + 1), r.trace(), trace.intValue());
            r.load(k % 3);
            trace = trace.multiply(BigInteger.valueOf(31)).add(BigInteger.valueOf(k % 3 == 2 ? 5 : 4));
            check.due("trace behind " + (k + 1), r.trace(), trace.intValue());
            below += r.trace() < 0 ? 1 : 0;
        }
        check.yes("it is below 0 now and then", below > 10);
    }

    private static void asTheyBegin() {
        check.says("TELLING of SHOTS by bodies that leave their number in TRACE");
        // A BOMB's number comes ahead of the ROCKET's in it, that one ahead of the SHOT's.
        int[] want = {1, 31 * 2 + 1, ((3 * 31 + 2) * 31 + 1) * 31 + 1};
        for (int kind = 0; kind < 3; kind++) {
            RainAccount r = Check.with("011;111");
            r.shot(kind, 0, 0, 9);
            r.tell(0);
            check.due("trace of kind " + kind, r.trace(), want[kind]);
            r.tell(1);
            r.load(-1);
            r.as(0, 0);
            r.ofShot(0, 0);
            check.due("trace of kind " + kind + " stays", r.trace(), want[kind]);
        }
    }

    private static void tellsEach() {
        check.says("SHOT (1): POWDER. ROCKET (2): what SHOT's gives, and 100. BOMB (3): what ROCKET's gives, "
                + "and what SHOT's gives (ROCKET's left out).");
        for (int kind = 0; kind < 3; kind++) {
            for (int powder = 1; powder <= 9; powder++) {
                RainAccount r = Check.with("011;111");
                r.shot(kind, 1, 11, powder);
                int want = kind == 0 ? powder : kind == 1 ? 100 + powder : 100 + 2 * powder;
                check.due("tell of kind " + kind, r.tell(0), want);
            }
        }
        check.due("tell without shots", Check.with("011;111").tell(0), -1);
        check.due("tell without a plain", new RainAccount().tell(0), -1);
    }

    private static void rocketsLeftOut() {
        check.says("(ROCKET's left out)");
        RainAccount r = Check.with("011;111");
        for (int s = 0; s < 8; s++) {
            r.shot(2, 0, 0, s + 1);
        }
        for (int s = 0; s < 8; s++) {
            check.due("tell(" + s + ")", r.tell(s), 2 * (s + 1) + 100);
        }
        check.due("tell(8)", r.tell(8), -1);
        check.due("tell(-1)", r.tell(-1), -1);
    }

    private static void loadsEach() {
        check.says("LOADED by a lent body (4): the own number of the one that is told, its place in its list; "
                + "BOMBS have their own (5): 80.");
        for (int kind = 0; kind < 3; kind++) {
            RainAccount r = Check.with("011;111");
            for (int s = 0; s < 8; s++) {
                r.shot(kind, 0, 0, 9);
                int before = r.trace();
                check.due("load(" + s + ") of kind " + kind, r.load(s), kind == 2 ? 80 : s);
                check.due("trace", r.trace(), 31 * before + (kind == 2 ? 5 : 4));
                check.due("load behind the last", r.load(s + 1), -1);
                check.due("load(-1)", r.load(-1), -1);
                check.due("trace", r.trace(), 31 * before + (kind == 2 ? 5 : 4));
            }
        }
        RainAccount mixed = Check.with("011;111");
        mixed.shot(2, 0, 0, 1);
        mixed.shot(1, 0, 0, 1);
        mixed.shot(0, 0, 0, 1);
        check.due("a rocket behind a bomb", mixed.load(1), 1);
        check.due("a shot behind both", mixed.load(2), 2);
        mixed.back(2);
        mixed.shot(0, 0, 0, 1);
        check.due("a shot in the rocket's place", mixed.load(1), 1);
    }

    private static void whatIsTaken() {
        check.says("A SHOT, taken as one of a kind: 1. UNKNOWN; OUTSIDE; CAST: it is none "
                + "(each is a SHOT, too; a BOMB is a ROCKET).");
        int[][] want = {{1, -12, -12}, {1, 1, -12}, {1, 1, 1}};
        for (int of = 0; of < 3; of++) {
            RainAccount r = Check.with("011;111");
            r.shot(of, 0, 0, 1);
            for (int kind = -1; kind <= 3; kind++) {
                boolean outside = kind < 0 || kind > 2;
                int due = outside ? -2 : want[of][kind];
                check.due("kind " + of + " as " + kind, r.as(0, kind), due);
                check.due("fault()", r.fault(), due == -12 ? 2 : 0);
                check.due("no shot as " + kind, r.as(1, kind), -1);
                check.due("fault()", r.fault(), 0);
            }
        }
    }

    private static void faultOfLatest() {
        check.says("The FAULT of the latest call that names one: 0: it came to none, or was refused (0 ahead of any).");
        RainAccount r = new RainAccount();
        check.due("ahead of any", r.fault(), 0);
        r.put(0, 0, 0);
        check.due("NULL of put", r.fault(), 1);
        r.sheet(4, 0, 1);
        check.due("sheet was refused", r.fault(), 0);
        r.sheet(0, 0, -1);
        check.due("SIZE of sheet", r.fault(), 4);
        r.sheet(0, 0, 41);
        check.due("sheet was refused", r.fault(), 0);
        r.put(0, 0, 0);
        r.sheet(0, 0, 1);
        check.due("sheet came to none", r.fault(), 0);
        r.put(0, 1, 0);
        check.due("INDEX of put", r.fault(), 3);
        r.put(0, 0, 0);
        check.due("put came to none", r.fault(), 0);
        r.cell(0, 0, 1);
        check.due("CAST of cell", r.fault(), 2);
        r.cell(0, 0, 0);
        check.due("cell came to none", r.fault(), 0);
        r.plain(0, 0, 0, -1);
        check.due("SIZE of plain", r.fault(), 4);
        r.plain(0, 0, 0, 1);
        check.due("a text's fault is none", r.fault(), 0);
        r.copy(0, 0, 1, 0, 0);
        check.due("NULL of copy", r.fault(), 1);
        r.copy(0, 0, 0, 0, 1);
        check.due("copy came to none", r.fault(), 0);
        r.missed(0, 0, 2);
        check.due("INDEX of missed", r.fault(), 3);
        r.missed(0, 0, 1);
        check.due("missed was refused: no plain", r.fault(), 0);
        r.missed(0, 0, 2);
        r.as(0, 0);
        check.due("as was refused", r.fault(), 0);
    }

    private static void faultsThatStay() {
        check.says("The FAULT of the latest call that names one");
        for (int fault : new int[] {Scene.CAST, Scene.SIZE}) {
            RainAccount r = Scene.FULL.make(fault);
            long[] answers = {r.ofField(0, 0), r.set(0, 0), r.cloud(0, 0, 0), r.ofCloud(0, 0, 1), r.shot(0, 0, 0, 1),
                r.ofShot(0, 0), r.back(0), r.fell(0, 0, 0), r.by(0, 0), r.yields(0), r.harvest(0), r.brought(0, 0),
                r.due(0, 0), r.idle(0), r.oneMore(0, 1, 0), r.awaited(0, 0), r.rests(0, 1, 1, 0), r.bestWind(0),
                r.lose(0), r.tell(0), r.load(0), r.trace(), r.fault(), r.many(0)};
            check.due("fault() behind " + answers.length + " that name none", r.fault(), fault);
            long[] refused = {r.ofField(8, 0), r.set(3, 0), r.cloud(21, 0, 0), r.ofCloud(6, 0, 1), r.shot(0, 8, 0, 1),
                r.ofShot(8, 0), r.back(9), r.fell(8, 0, 0), r.by(8, 0), r.yields(8), r.harvest(4), r.brought(8, 0),
                r.due(8, 0), r.idle(2), r.oneMore(4, 1, 0), r.awaited(11, 0), r.rests(0, 0, 1, 0), r.bestWind(2),
                r.lose(4), r.tell(8), r.load(8), r.many(6)};
            check.due("fault() behind " + refused.length + " that are refused", r.fault(), fault);
        }
    }

    private static void faultNumbers() {
        check.says("1 NULL (there is nothing), 2 CAST (it is of another sort, kind), 3 INDEX");
        RainAccount r = Check.with("011;111");
        r.shot(0, 0, 0, 1);
        check.due("NULL", r.put(0, 0, 0), -10 - 1);
        check.due("fault()", r.fault(), 1);
        check.due("CAST of a kind", r.as(0, 2), -10 - 2);
        check.due("fault()", r.fault(), 2);
        check.due("CAST of a sort", r.plain(3, 1, 0, 7), -10 - 2);
        check.due("fault()", r.fault(), 2);
        check.due("INDEX", r.put(3, 7, 0), -10 - 3);
        check.due("fault()", r.fault(), 3);
        check.says("4 SIZE (a length below 0)");
        check.due("SIZE", r.sheet(0, 0, -1), -10 - 4);
        check.due("fault()", r.fault(), 4);
        check.says("(LOST, where a long is answered, as for refusals)");
        check.due("a fault", r.cell(3, 7, 0), RainAccount.LOST);
        check.due("fault()", r.fault(), 3);
        check.due("a refusal", r.cell(4, 7, 0), RainAccount.LOST);
        check.due("fault()", r.fault(), 0);
        check.says("NONE is -9.");
        check.due("NONE", r.by(0, 1), RainAccount.NONE);
        check.due("NONE", RainAccount.NONE, -9);
    }

    private static void firstFaultInOrder() {
        check.says("Of a call the first that is come to, in the order told; it answers -10 less it");
        RainAccount r = new RainAccount();
        Check.write(r, 1, 1, 48, 49);
        Check.write(r, 2, 2, 48, 49);
        check.due("plain: NULL, SIZE, INDEX", r.plain(0, 0, -1, -1), -11);
        check.due("plain: CAST, SIZE, INDEX", r.plain(1, 0, -1, -1), -12);
        check.due("plain: CAST, INDEX", r.plain(1, 2, -1, 9), -12);
        check.due("plain: SIZE, INDEX", r.plain(1, 1, 3, -1), -14);
        check.due("plain: INDEX, a text's fault", r.plain(1, 1, 1, 2), -13);
        check.due("missed: NULL, INDEX, no plain", r.missed(0, 0, -1), -11);
        check.due("missed: CAST, INDEX, no plain", r.missed(1, 0, -1), -12);
        check.due("missed: INDEX, no plain", r.missed(1, 1, -1), -13);
        check.due("put: NULL, INDEX", r.put(0, -1, 0), -11);
        check.due("copy: NULL, INDEX", r.copy(0, -1, 1, -1, -1), -11);
        check.due("copy: NULL of the other, INDEX", r.copy(1, -1, 0, -1, -1), -11);
        check.due("copy: CAST, INDEX", r.copy(1, -1, 2, -1, -1), -12);
        check.due("copy: INDEX thrice", r.copy(1, -1, 1, -1, -1), -13);
        r.cell(0, -1, 0);
        check.due("cell: NULL, INDEX", r.fault(), 1);
        r.cell(1, -1, 0);
        check.due("cell: CAST, INDEX", r.fault(), 2);
    }

    private static void refusalsInOrder() {
        check.says("REFUSALS, in the order in which a call's line tells them: UNKNOWN");
        RainAccount r = new RainAccount();
        check.due("plain: UNKNOWN, OUTSIDE, SIZE", r.plain(4, 3, 0, -1), -1);
        check.due("plain: OUTSIDE, NULL, SIZE", r.plain(0, 3, 0, -1), -2);
        check.due("missed: UNKNOWN, OUTSIDE, INDEX", r.missed(4, 3, -1), -1);
        check.due("missed: OUTSIDE, NULL, INDEX", r.missed(0, 3, -1), -2);
        check.due("sheet: UNKNOWN, OUTSIDE, SIZE", r.sheet(4, 3, -1), -1);
        check.due("sheet: OUTSIDE, SIZE", r.sheet(0, 3, -1), -2);
        check.due("set: OUTSIDE, STATE", r.set(0, 4), -2);
        check.due("cloud: OUTSIDE, STATE", r.cloud(0, 0, 0), -2);
        check.due("shot: UNKNOWN, OUTSIDE", r.shot(3, 0, 0, 1), -1);
        check.due("oneMore: UNKNOWN, OUTSIDE, STATE", r.oneMore(4, 0, 0), -1);
        check.due("oneMore: OUTSIDE, STATE", r.oneMore(0, 0, 0), -2);
        check.due("rests: UNKNOWN, OUTSIDE, STATE", r.rests(0, 0, 0, 0), -1);
        check.due("rests: OUTSIDE, STATE", r.rests(0, 1, 1, 2), -2);
        check.due("bestWind: OUTSIDE, STATE", r.bestWind(2), -2);
        RainAccount full = Scene.FULL.make(Scene.CAST);
        check.due("cloud: OUTSIDE, FULL", full.cloud(0, 1, 10), -2);
        check.due("cloud: FULL", full.cloud(0, 1, 9), -4);
        check.due("shot: UNKNOWN, OUTSIDE, FULL", full.shot(3, 8, 0, 1), -1);
        check.due("shot: OUTSIDE, FULL", full.shot(3, 7, 0, 1), -2);
        check.due("shot: FULL", full.shot(2, 7, 0, 1), -4);
        check.due("as: UNKNOWN, OUTSIDE", full.as(8, 3), -1);
        check.due("as: OUTSIDE", full.as(0, 3), -2);
        check.due("as: CAST", full.as(0, 2), -12);
    }

    private static void nothingChanges() {
        check.says("they change nothing (but fault(), of a call that names FAULTS)");
        for (Scene scene : Scene.values()) {
            String was = Sight.of(scene.make(Scene.CAST));
            RainAccount r = scene.make(Scene.CAST);
            long[] none = {r.set(3, 0), r.cloud(21, 1, 1), r.shot(0, 8, 0, 1), r.back(9), r.lose(4), r.tell(8), r.load(8)};
            check.same(scene + ": refusals of " + none.length + " that name none", Sight.of(r), was);
            r.plain(4, 0, 0, 0);
            r.missed(0, 3, 0);
            r.sheet(1, 0, 41);
            r.put(4, 0, 0);
            r.copy(1, 0, 4, 0, 1);
            r.as(8, 0);
            check.same(scene + ": refusals", Sight.of(r), Sight.withFault(was, 0));
        }
        check.says("and changes nothing; fault() tells it.");
        RainAccount r = Scene.FULL.make(Scene.CAST);
        String was = Sight.of(Scene.FULL.make(Scene.CAST));
        r.plain(Scene.BYTES, 0, 5, 7);
        r.missed(Scene.INTS, 2, 2);
        r.put(Scene.BYTES, Scene.BYTE_CELLS, 9);
        r.copy(Scene.INTS, 0, Scene.MORE_INTS, 2, 9);
        check.same("faults of an index", Sight.of(r), Sight.withFault(was, 3));
        RainAccount size = Scene.FULL.make(Scene.CAST);
        size.plain(Scene.BYTES, 0, 2, -1);
        size.sheet(Scene.BYTES, 1, -1);
        check.same("faults of a size", Sight.of(size), Sight.withFault(was, 4));
    }

    private static void allCalls() {
        check.says("An object is used for at most 512 calls after it has been made");
        RainAccount r = new RainAccount();
        check.due("call 1", r.sheet(0, 2, 40), 1);
        for (int call = 2; call < 512; call++) {
            check.due("call " + call, r.put(0, call % 40, call), 1);
        }
        check.due("call 512", r.cell(0, 511 % 40, 2), 511);
        RainAccount anew = new RainAccount();
        Check.plain(anew, "011;111");
        int trace = 0;
        for (int call = 10; call <= 512; call += 3) {
            check.due("a shot", anew.shot(0, 0, 0, 1), 0);
            anew.tell(0);
            trace = 31 * trace + 1;
            check.due("taken back", anew.back(1), 0);
        }
        check.due("trace of all of them", anew.trace(), trace);
    }
}
