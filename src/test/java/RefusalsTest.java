/**
 * Each call's line, as it tells refusals and faults: what is answered, by which one of several, that nothing changes,
 * and what fault() tells behind it. Of each number the first one that is refused on either side is among them.
 */
public final class RefusalsTest {
    private static final int UNKNOWN = -1, OUTSIDE = -2, STATE = -3, FULL = -4;
    private static final int NULL = 1, CAST = 2, INDEX = 3, SIZE = 4;
    private static final int FAR = Integer.MAX_VALUE, FAR_BELOW = Integer.MIN_VALUE;

    private static final Check check = new Check();

    public static void main(String[] args) {
        for (Scene scene : Scene.values()) {
            plain(scene);
            set(scene);
            cloud(scene);
            shot(scene);
            back(scene);
            ofThose(scene);
            theDay(scene);
            owners(scene);
            plans(scene);
            winds(scene);
            missed(scene);
            sheets(scene);
            cells(scene);
            copies(scene);
            parts(scene);
            taken(scene);
        }
        check.end();
    }

    private static Line line(String name, Scene scene, Line.Call call, int... taken) {
        return Line.plain(check, name, scene, call, taken);
    }

    private static Line faulty(String name, Scene scene, Line.Call call, int... taken) {
        return Line.faulty(check, name, scene, call, taken);
    }

    private static void plain(Scene scene) {
        // NULL stands ahead of CAST here, since nothing is no CAST.
        check.says("UNKNOWN; OUTSIDE: sort; FAULTS CAST (nothing is no CAST), NULL, SIZE: n is below 0, "
                + "INDEX: not all cells are there; -100 less it.");
        faulty("plain", scene, (r, a) -> r.plain(a[0], a[1], a[2], a[3]), Scene.BYTES, 0, 2, 7)
                .within(0, UNKNOWN, 0, 3)
                .within(1, OUTSIDE, 0, 2)
                .fault(NULL, 0, 0)
                .fault(CAST, 1, 1, 2)
                .fault(SIZE, 3, -1, FAR_BELOW)
                .fault(INDEX, 2, -1, Scene.BYTE_CELLS + 1, FAR, FAR_BELOW)
                .fault(INDEX, 3, Scene.BYTE_CELLS + 1, FAR)
                .refused(2, -100, 0, 1)
                .refused(3, -106, 6)
                .holds();
    }

    private static void set(Scene scene) {
        check.says("(what 0: -3 .. 3), LOW (1: 0 .. 9), FORBIDDEN HOURS (2: a set, 0 .. 4095) become v");
        set(scene, 0, -3, 3);
        set(scene, 1, 0, 9);
        set(scene, 2, 0, 4095);
    }

    private static void set(Scene scene, int what, int least, int most) {
        Line line = line("set", scene, (r, a) -> r.set(a[0], a[1]), what, 0)
                .within(0, OUTSIDE, 0, 2)
                .within(1, OUTSIDE, least, most);
        stateIfBare(line, scene).holds();
    }

    private static Line stateIfBare(Line line, Scene scene) {
        return scene == Scene.BARE ? line.anyway(STATE) : line;
    }

    private static Line fullIfFull(Line line, Scene scene) {
        return scene == Scene.FULL ? line.anyway(FULL) : line;
    }

    private static void cloud(Scene scene) {
        check.says("A CLOUD: its number. OUTSIDE; STATE: there is no PLAIN; FULL.");
        Line line = line("cloud", scene, (r, a) -> r.cloud(a[0], a[1], a[2]), 0, 5, 5)
                .within(0, OUTSIDE, -20, 20)
                .within(1, OUTSIDE, 1, 30)
                .within(2, OUTSIDE, 1, 9);
        fullIfFull(stateIfBare(line, scene), scene).holds();
    }

    private static void shot(Scene scene) {
        check.says("A SHOT: its number. UNKNOWN: FIELD; OUTSIDE; FULL.");
        Line line = line("shot", scene, (r, a) -> r.shot(a[0], a[1], a[2], a[3]), 0, 0, 0, 1);
        known(line, 1, scene.fields)
                .within(0, OUTSIDE, 0, 2)
                .within(2, OUTSIDE, 0, 11)
                .within(3, OUTSIDE, 1, 9);
        fullIfFull(line, scene).holds();
    }

    /** A number of those that there are; if there are none, each is unknown. */
    private static Line known(Line line, int arg, int count) {
        return count == 0
                ? line.anyway(UNKNOWN).refused(arg, UNKNOWN, -1, 1)
                : line.within(arg, UNKNOWN, 0, count - 1);
    }

    private static void back(Scene scene) {
        check.says("The last k SHOTS (0 .. as many as there are) are taken back: how many are left. OUTSIDE.");
        line("back", scene, (r, a) -> r.back(a[0]), 0).asks().within(0, OUTSIDE, 0, scene.shots).holds();
    }

    private static void ofThose(Scene scene) {
        check.says("Of a FIELD: 0 CLUB, 1 NEED, 2 WORTH. UNKNOWN; OUTSIDE.");
        known(line("ofField", scene, (r, a) -> r.ofField(a[0], a[1]), 0, 0), 0, scene.fields)
                .within(1, OUTSIDE, 0, 2).asks().holds();
        check.says("1 how WET it is as the HOUR begins, 2 HIGH. UNKNOWN; OUTSIDE.");
        known(line("ofCloud", scene, (r, a) -> r.ofCloud(a[0], a[1], a[2]), 0, 5, 1), 0, scene.clouds)
                .within(1, OUTSIDE, 0, 11).within(2, OUTSIDE, 0, 2).asks().holds();
        check.says("0 kind, 1 FIELD, 2 HOUR, 3 POWDER, 4 how high it REACHES. UNKNOWN; OUTSIDE.");
        known(line("ofShot", scene, (r, a) -> r.ofShot(a[0], a[1]), 0, 0), 0, scene.shots)
                .within(1, OUTSIDE, 0, 4).asks().holds();
        check.says("3 WIND (and 10), 4 LOW, 5 FORBIDDEN (a set) (3 .. 5: 0 without a PLAIN). OUTSIDE.");
        line("many", scene, (r, a) -> r.many(a[0]), 0).within(0, OUTSIDE, 0, 5).asks().holds();
    }

    private static void theDay(Scene scene) {
        check.says("Behind an HOUR, what fell on a FIELD by then: rain (what 0), HAIL (1). UNKNOWN; OUTSIDE.");
        known(line("fell", scene, (r, a) -> r.fell(a[0], a[1], a[2]), 0, 5, 0), 0, scene.fields)
                .within(1, OUTSIDE, 0, 11).within(2, OUTSIDE, 0, 1).asks().holds();
        check.says("how much fell (rain and HAIL; what 0), of which CLOUD (1; NONE). UNKNOWN; OUTSIDE.");
        known(line("by", scene, (r, a) -> r.by(a[0], a[1]), 0, 0), 0, scene.shots)
                .within(1, OUTSIDE, 0, 1).asks().holds();
        check.says("YIELD of a FIELD. UNKNOWN.");
        known(line("yields", scene, (r, a) -> r.yields(a[0]), 0), 0, scene.fields).asks().holds();
        check.says("YIELD of a CLUB, of all (-1). UNKNOWN.");
        line("harvest", scene, (r, a) -> r.harvest(a[0]), -1).within(0, UNKNOWN, -1, 3).asks().holds();
    }

    private static void owners(Scene scene) {
        check.says("BROUGHT by a SHOT to a CLUB (-1: to all). LOST: UNKNOWN: SHOT, CLUB.");
        known(line("brought", scene, (r, a) -> r.brought(a[0], a[1]), 0, -1).ofLongs(), 0, scene.shots)
                .within(1, UNKNOWN, -1, 3).asks().holds();
        check.says("DUE. UNKNOWN: SHOT, CLUB (-1: so, too).");
        known(line("due", scene, (r, a) -> r.due(a[0], a[1]), 0, 0), 0, scene.shots)
                .within(1, UNKNOWN, 0, 3).asks().holds();
        check.says("IDLE (what 0), BREACHES (1), as sets. OUTSIDE.");
        line("idle", scene, (r, a) -> r.idle(a[0]), 0).within(0, OUTSIDE, 0, 1).asks().holds();
    }

    private static void plans(Scene scene) {
        check.says("UNKNOWN: CLUB; OUTSIDE: POWDER (1 .. 9), what; STATE: there is no PLAIN.");
        Line more = line("oneMore", scene, (r, a) -> r.oneMore(a[0], a[1], a[2]), 0, 5, 0)
                .within(0, UNKNOWN, -1, 3).within(1, OUTSIDE, 1, 9).within(2, OUTSIDE, 0, 2).asks();
        stateIfBare(more, scene).holds();
        check.says("AWAITED, a share. LOST: OUTSIDE: c, which.");
        line("awaited", scene, (r, a) -> r.awaited(a[0], a[1]), 5, 0).ofLongs()
                .within(0, OUTSIDE, 0, 10).within(1, OUTSIDE, 0, 1).asks().holds();
        check.says("UNKNOWN: CLUBS, they are one; OUTSIDE: POWDER, what; STATE: there is no PLAIN.");
        Line two = line("rests", scene, (r, a) -> r.rests(a[0], a[1], a[2], a[3]), 0, 1, 5, 0)
                .refused(0, UNKNOWN, -1, 4, FAR, FAR_BELOW).refused(1, UNKNOWN, -1, 4, FAR, FAR_BELOW)
                .within(2, OUTSIDE, 1, 9).within(3, OUTSIDE, 0, 1).asks();
        stateIfBare(two, scene).holds();
        for (int club = 0; club < 4; club++) {
            Line one = line("rests", scene, (r, a) -> r.rests(a[0], a[1], a[2], a[3]), club, 3 - club, 5, 0)
                    .refused(1, UNKNOWN, club).refused(2, OUTSIDE, 0, 10).refused(3, OUTSIDE, -1, 2).asks();
            stateIfBare(one, scene).holds();
        }
    }

    private static void winds(Scene scene) {
        check.says("BEST WIND (what 0, and 10), YIELD of all by it (1). OUTSIDE; STATE: there is no PLAIN.");
        Line line = line("bestWind", scene, (r, a) -> r.bestWind(a[0]), 0).within(0, OUTSIDE, 0, 1).asks();
        stateIfBare(line, scene).holds();
    }

    private static void missed(Scene scene) {
        check.says("UNKNOWN: SHEET; OUTSIDE: sort; FAULTS CAST, NULL, INDEX (without a PLAIN: of no cells); "
                + "STATE: there is no PLAIN.");
        Line line = faulty("missed", scene, (r, a) -> r.missed(a[0], a[1], a[2]), Scene.INTS, 2, 0)
                .within(0, UNKNOWN, 0, 3)
                .within(1, OUTSIDE, 0, 2)
                .fault(NULL, 0, 0)
                .fault(CAST, 1, 0, 1)
                .fault(INDEX, 2, -1, Scene.INT_CELLS + 1, FAR, FAR_BELOW)
                .asks();
        stateIfBare(line, scene).holds();
        if (scene != Scene.BARE) {
            int last = Scene.INT_CELLS - scene.fields;
            faulty("missed", scene, (r, a) -> r.missed(a[0], a[1], a[2]), Scene.INTS, 2, last)
                    .asks().fault(INDEX, 2, last + 1, Scene.INT_CELLS).holds();
        }
    }

    private static void sheets(Scene scene) {
        check.says("A SHEET gets a new row: 1. UNKNOWN; OUTSIDE: sort, n above 40; SIZE.");
        faulty("sheet", scene, (r, a) -> r.sheet(a[0], a[1], a[2]), 1, 0, 5)
                .within(0, UNKNOWN, 0, 3)
                .within(1, OUTSIDE, 0, 2)
                .refused(2, OUTSIDE, 41, FAR)
                .fault(SIZE, 2, -1, FAR_BELOW)
                .holds();
        check.says("A SHEET has nothing: 1; 0: it had nothing. UNKNOWN.");
        line("lose", scene, (r, a) -> r.lose(a[0]), 0).asks().within(0, UNKNOWN, 0, 3).holds();
    }

    private static void cells(Scene scene) {
        check.says("Cell i of a SHEET becomes v: 1. UNKNOWN; NULL; INDEX.");
        faulty("put", scene, (r, a) -> r.put(a[0], a[1], a[2]), Scene.BYTES, 0, 5)
                .within(0, UNKNOWN, 0, 3)
                .fault(NULL, 0, 0)
                .fault(INDEX, 1, -1, Scene.BYTE_CELLS, FAR, FAR_BELOW)
                .holds();
        check.says("LOST: UNKNOWN, OUTSIDE: sort; FAULTS CAST (nothing is no CAST), NULL, INDEX.");
        // A refusal is LOST here, as a fault is: fault() tells which it was.
        faulty("cell", scene, (r, a) -> r.cell(a[0], a[1], a[2]), Scene.BYTES, 0, 0).ofLongs()
                .refused(0, UNKNOWN, -1, 4, FAR, FAR_BELOW)
                .refused(2, OUTSIDE, -1, 3, FAR, FAR_BELOW)
                .fault(NULL, 0, 0)
                .fault(CAST, 2, 1, 2)
                .fault(INDEX, 1, -1, Scene.BYTE_CELLS, FAR, FAR_BELOW)
                .asks().holds();
    }

    private static void copies(Scene scene) {
        check.says("UNKNOWN; FAULTS NULL (the first, the other), CAST (unlike SORTS), INDEX: i, j, n below 0 or beyond.");
        Line.Call copy = (r, a) -> r.copy(a[0], a[1], a[2], a[3], a[4]);
        faulty("copy", scene, copy, Scene.INTS, 2, Scene.MORE_INTS, 1, 4)
                .refused(0, UNKNOWN, -1, 4, FAR, FAR_BELOW)
                .refused(2, UNKNOWN, -1, 4, FAR, FAR_BELOW)
                .fault(NULL, 0, 0)
                .fault(NULL, 2, 0)
                .fault(CAST, 2, Scene.BYTES)
                .fault(INDEX, 1, -1, Scene.INT_CELLS + 1, FAR, FAR_BELOW)
                .fault(INDEX, 3, -1, Scene.MORE_INT_CELLS + 1, FAR, FAR_BELOW)
                .fault(INDEX, 4, -1, Scene.INT_CELLS + 1, FAR, FAR_BELOW)
                .holds();
        faulty("copy", scene, copy, Scene.INTS, 2, Scene.MORE_INTS, 1, 4)
                .fault(CAST, 0, Scene.BYTES).fault(INDEX, 1, -1, 12).fault(INDEX, 3, -1, 11).fault(INDEX, 4, -1, 12)
                .holds();
        faulty("copy", scene, copy, Scene.INTS, 2, Scene.MORE_INTS, 1, 7)
                .fault(INDEX, 1, 3, 9).fault(INDEX, 3, 4, 10).fault(INDEX, 4, 8).holds();
        faulty("copy", scene, copy, Scene.MORE_INTS, 0, Scene.INTS, 2, 7)
                .fault(INDEX, 1, 4, 10).fault(INDEX, 3, 3, 9).fault(INDEX, 4, 8).holds();
    }

    private static void parts(Scene scene) {
        check.says("TELLING of a SHOT. UNKNOWN.");
        known(line("tell", scene, (r, a) -> r.tell(a[0]), 0), 0, scene.shots).holds();
        check.says("How it is LOADED. UNKNOWN.");
        known(line("load", scene, (r, a) -> r.load(a[0]), 0), 0, scene.shots).holds();
        check.says("UNKNOWN; OUTSIDE; CAST: it is none (each is a SHOT, too; a BOMB is a ROCKET).");
        known(faulty("as", scene, (r, a) -> r.as(a[0], a[1]), 0, 0), 0, scene.shots)
                .refused(1, OUTSIDE, -1, 3, FAR, FAR_BELOW).asks().holds();
        if (scene != Scene.BARE) {
            faulty("as", scene, (r, a) -> r.as(a[0], a[1]), 0, 0).fault(CAST, 1, 1, 2).holds();
            faulty("as", scene, (r, a) -> r.as(a[0], a[1]), 1, 1).asks().fault(CAST, 1, 2).holds();
            faulty("as", scene, (r, a) -> r.as(a[0], a[1]), 2, 2).asks().within(1, OUTSIDE, 0, 2).holds();
        }
    }

    /** What has no line of refusals: it changes nothing. */
    private static void taken(Scene scene) {
        check.says("The FAULT of the latest call that names one");
        line("trace", scene, (r, a) -> r.trace(), 0).asks().holds();
        line("fault", scene, (r, a) -> r.fault(), 0).asks().holds();
    }
}
