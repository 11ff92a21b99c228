/** Part 1 of the terms, and promises 1 to 9 and 32, by the sentences that name a boundary. */
public final class PlainEdgesTest {
    private static final String EIGHT = "000;199;299;399;012;123;234;345";

    private static final Check check = new Check();

    public static void main(String[] args) {
        newObject();
        howMany();
        textOfCells();
        howManyFields();
        between();
        digits();
        noOtherCode();
        firstFault();
        ninthField();
        endsTooSoon();
        allAnew();
        fewerAnew();
        settings();
        sixClouds();
        cloudNumbers();
        aboveFields();
        drawnOn();
        wetAsAnHourBegins();
        eightShots();
        shotNumbers();
        kinds();
        reaches();
        takenBack();
        check.end();
    }

    private static void newObject() {
        check.says("No PLAIN (no FIELDS), SHEETS have nothing.");
        RainAccount r = new RainAccount();
        check.due("new fault()", r.fault(), 0);
        check.due("new trace()", r.trace(), 0);
        for (int what = 0; what < 6; what++) {
            check.due("new many(" + what + ")", r.many(what), 0);
        }
        for (int k = 0; k < 4; k++) {
            check.due("new cell(" + k + ", 0, 0)", r.cell(k, 0, 0), RainAccount.LOST);
            check.due("new fault()", r.fault(), 1);
            check.due("new lose(" + k + ")", r.lose(k), 0);
        }
    }

    private static void howMany() {
        check.says("How many: 0 FIELDS, 1 CLOUDS, 2 SHOTS, 3 WIND (and 10), 4 LOW, 5 FORBIDDEN (a set) "
                + "(3 .. 5: 0 without a PLAIN). OUTSIDE.");
        RainAccount bare = new RainAccount();
        bare.set(0, 2);
        bare.set(1, 2);
        bare.set(2, 2);
        many(bare, 0, 0, 0, 0, 0, 0);
        RainAccount r = Check.with(EIGHT);
        many(r, 8, 0, 0, 10, 0, 0);
        for (int k = 0; k < 9; k++) {
            r.cloud(0, 1, 1);
            r.shot(0, 0, 0, 1);
        }
        r.set(0, -3);
        r.set(1, 9);
        r.set(2, 4095);
        many(r, 8, 6, 8, 7, 9, 4095);
        r.set(0, 3);
        r.set(1, 0);
        r.set(2, 0);
        r.back(8);
        many(r, 8, 6, 0, 13, 0, 0);
        for (int what : new int[] {-1, 6, Integer.MIN_VALUE, Integer.MAX_VALUE}) {
            check.due("many(" + what + ")", r.many(what), -2);
            check.due("bare many(" + what + ")", bare.many(what), -2);
        }
    }

    private static void many(RainAccount r, int... want) {
        for (int what = 0; what < 6; what++) {
            check.due("many(" + what + ")", r.many(what), want[what]);
        }
    }

    private static void textOfCells() {
        check.says("A PLAIN by a TEXT of n cells of a SHEET from i on, taken as a row of a SORT: how many FIELDS; "
                + "-100 less the FIRST FAULT.");
        for (int sheet = 0; sheet < 4; sheet++) {
            for (int sort = 0; sort < 3; sort++) {
                RainAccount r = new RainAccount();
                Check.write(r, sheet, sort, "012;345;067;1".chars().toArray());
                for (int as = 0; as < 3; as++) {
                    check.due("as sort " + as, r.plain(sheet, as, 0, 11), as == sort ? 3 : -12);
                    check.due("of another sheet", r.plain((sheet + 1) % 4, as, 0, 11), -11);
                }
                check.due("of cells from 4 on", r.plain(sheet, sort, 4, 7), 2);
                check.due("need", r.ofField(0, 1), 4);
                check.due("club", r.ofField(1, 0), 0);
                check.due("worth", r.ofField(1, 2), 7);
                check.due("of cells from 1 on", r.plain(sheet, sort, 1, 12), -102);
                check.due("of all cells", r.plain(sheet, sort, 0, 13), -113);
                check.due("of none behind them", r.plain(sheet, sort, 13, 0), -100);
                check.due("fields", r.many(0), 2);
            }
        }
    }

    private static String fields(int count) {
        return "012;".repeat(count).substring(0, Math.max(0, 4 * count - 1));
    }

    private static void howManyFields() {
        check.says("2 to 8 FIELDS, numbered from 0 on in a row");
        int[] want = {-100, -103, 2, 3, 4, 5, 6, 7, 8, -131};
        for (int count = 0; count < want.length; count++) {
            RainAccount r = new RainAccount();
            check.due("plain of " + count + " fields", Check.plain(r, fields(count)), want[count]);
            int there = Math.max(0, want[count]);
            check.due("many(0)", r.many(0), there);
            check.due("the field behind the last one", r.ofField(there, 0), -1);
            check.due("the last field", r.ofField(there - 1, 1), there == 0 ? -1 : 1);
        }
    }

    private static void taken(String text, int place, int code, boolean is, int count) {
        int[] cells = text.chars().toArray();
        cells[place] = code;
        RainAccount r = new RainAccount();
        Check.write(r, 0, 2, cells);
        String call = "plain with code " + code + " at " + place;
        check.due(call, r.plain(0, 2, 0, cells.length), is ? count : -100 - place);
        if (is && place % 4 < 3) {
            check.due(call + ", what it tells", r.ofField(place / 4, place % 4), code - 48);
        }
    }

    private static void between() {
        check.says("with ; between");
        for (int place = 3; place < 31; place += 4) {
            for (int code = 57; code <= 61; code++) {
                taken(EIGHT, place, code, code == 59, 8);
            }
            taken(EIGHT, place, ',', false, 8);
        }
        check.due("no ; at all", Check.plain(new RainAccount(), "012345"), -103);
        check.due("two of them", Check.plain(new RainAccount(), "012;;345"), -104);
        check.due("one ahead", Check.plain(new RainAccount(), ";012;345"), -100);
        check.due("one behind", Check.plain(new RainAccount(), "012;345;"), -108);
    }

    private static void digits() {
        check.says("three digits each: CLUB (0 .. 3), NEED (0 .. 9), WORTH (0 .. 9)");
        for (int place = 0; place < 31; place++) {
            int most = place % 4 == 0 ? 51 : 57;
            for (int code = 46; code <= 59 && place % 4 < 3; code++) {
                taken(EIGHT, place, code, code >= 48 && code <= most, 8);
            }
        }
    }

    private static void noOtherCode() {
        check.says("(Codes: ; 59, digits 48 .. 57.)");
        for (int place = 0; place < 7; place++) {
            int most = place % 4 == 0 ? 51 : 57;
            for (int code = -128; code < 256; code++) {
                boolean is = place == 3 ? code == 59 : code >= 48 && code <= most;
                taken("012;345", place, code, is, 2);
            }
        }
        for (int code : new int[] {48 + 256, 48 - 256, 48 + 65536, 48 - 65536, 48 | 1 << 31, 0x7fffffff, 1 << 31}) {
            taken("012;345", 0, code, false, 2);
            taken("012;345", 6, code, false, 2);
        }
    }

    private static void firstFault() {
        check.says("FIRST FAULT: the place (from 0 on) of the first code with which no TEXT goes on");
        check.due("of two faults the first", Check.plain(new RainAccount(), "01x;x45"), -102);
        check.due("a fault, and too short", Check.plain(new RainAccount(), "0x"), -101);
        check.due("a fault, and too long", Check.plain(new RainAccount(), "4" + EIGHT), -100);
        RainAccount r = new RainAccount();
        Check.write(r, 0, 1, "99012;3x5".chars().toArray());
        check.due("from the text's begin on", r.plain(0, 1, 2, 7), -105);
        check.due("fault()", r.fault(), 0);
        check.due("just ahead of it", r.plain(0, 1, 2, 5), -105);
        check.due("ahead of the text", r.plain(0, 1, 0, 9), -100);
    }

    private static void ninthField() {
        check.says("(the ; of a ninth FIELD)");
        check.due("; behind the eighth", Check.plain(new RainAccount(), EIGHT + ";"), -131);
        check.due("a ninth", Check.plain(new RainAccount(), EIGHT + ";012"), -131);
        check.due("a ninth, with a fault", Check.plain(new RainAccount(), EIGHT + ";x12"), -131);
        check.due("a digit behind the eighth", Check.plain(new RainAccount(), EIGHT + "0"), -131);
        check.due("a ; behind the seventh", Check.plain(new RainAccount(), EIGHT.substring(0, 28)), -128);
    }

    private static void endsTooSoon() {
        check.says("how many codes there are, if it just ends too soon");
        for (int n = 0; n <= 31; n++) {
            boolean ends = n >= 7 && n % 4 == 3;
            int want = ends ? (n + 1) / 4 : -100 - n;
            check.due("plain of " + n + " codes", Check.plain(new RainAccount(), EIGHT.substring(0, n)), want);
            RainAccount r = new RainAccount();
            Check.write(r, 0, 2, (EIGHT + ";xxx").chars().toArray());
            check.due("plain of the first " + n, r.plain(0, 2, 0, n), want);
        }
    }

    private static void allAnew() {
        check.says("A TEXT that is taken makes all anew, but for the SHEETS and TRACE: "
                + "no CLOUDS, no SHOTS, WIND 0, LOW 0, nothing FORBIDDEN.");
        for (Scene scene : Scene.values()) {
            RainAccount r = scene.make(Scene.CAST);
            int trace = r.trace();
            check.due(scene + ": plain", r.plain(Scene.BYTES, 0, 2, 7), 2);
            check.due("fault()", r.fault(), 0);
            int[] want = {2, 0, 0, 10, 0, 0};
            for (int what = 0; what < 6; what++) {
                check.due("many(" + what + ")", r.many(what), want[what]);
            }
            check.due("trace()", r.trace(), trace);
            check.due("trace() as shots told", trace == 0 ? 1 : 0, scene.shots == 0 ? 1 : 0);
            check.due("no cloud", r.ofCloud(0, 0, 0), -1);
            check.due("no shot", r.ofShot(0, 0), -1);
            check.due("nothing fell", r.fell(0, 11, 0) + r.fell(1, 11, 0) + r.fell(1, 11, 1), 0);
            check.due("the text stays", r.cell(Scene.BYTES, 2, 0), '0');
            check.due("a sheet stays", r.cell(Scene.MORE_INTS, 9, 2), 100);
            check.due("nothing stays", r.lose(0), 0);
            check.due("first cloud", r.cloud(0, 1, 1), 0);
            check.due("first shot", r.shot(0, 0, 0, 1), 0);
            check.due("it falls", r.fell(0, 11, 0), 1);
        }
    }

    private static void fewerAnew() {
        check.says("A TEXT that is taken makes all anew");
        RainAccount r = Scene.FULL.make(Scene.CAST);
        r.plain(Scene.BYTES, 0, 2, 7);
        check.due("of eight two are left", r.ofField(2, 0), -1);
        int[] want = {0, 1, 2, 3, 4, 5};
        for (int k = 0; k < 6; k++) {
            check.due("ofField", r.ofField(k / 3, k % 3), want[k]);
        }
        check.due("shot from a field of the old plain", r.shot(0, 2, 0, 1), -1);
        check.due("eight again", Check.plain(r, EIGHT), 8);
        check.due("the last field", r.ofField(7, 2), 5);
    }

    private static void settings() {
        check.says("what it was (of WIND: and 10)");
        RainAccount r = Check.with(EIGHT);
        int was = 10;
        for (int v = -3; v <= 3; v++) {
            check.due("set(0, " + v + ")", r.set(0, v), was);
            was = v + 10;
            check.due("many(3)", r.many(3), was);
        }
        was = 0;
        for (int v = 9; v >= 0; v--) {
            check.due("set(1, " + v + ")", r.set(1, v), was);
            was = v;
            check.due("many(4)", r.many(4), was);
        }
        for (int v : new int[] {4095, 0, 1, 2048, 2, 4095}) {
            check.due("set(2, " + v + ")", r.set(2, v), was);
            was = v;
            check.due("many(5)", r.many(5), was);
        }
        check.due("each is kept for itself", r.many(3) * 100000 + r.many(4) * 10000 + r.many(5), 1304095);
    }

    private static void sixClouds() {
        check.says("CLOUDS, 6 at most, numbered from 0 on as they come");
        RainAccount r = Check.with(EIGHT);
        check.due("none", r.many(1), 0);
        for (int c = 0; c < 6; c++) {
            check.due("ofCloud behind the last", r.ofCloud(c, 0, 0), -1);
            check.due("cloud", r.cloud(c - 3, 10 + c, 9 - c), c);
            check.due("many(1)", r.many(1), c + 1);
        }
        check.due("a seventh", r.cloud(0, 1, 1), -4);
        check.due("a seventh, as told not", r.cloud(0, 31, 1), -2);
        check.due("many(1)", r.many(1), 6);
        for (int c = 0; c < 6; c++) {
            check.due("where", r.ofCloud(c, 0, 0), 97 + c);
            check.due("wet", r.ofCloud(c, 0, 1), 10 + c);
            check.due("high", r.ofCloud(c, 0, 2), 9 - c);
        }
        check.due("no seventh", r.ofCloud(6, 0, 0), -1);
    }

    private static void cloudNumbers() {
        check.says("where it is in HOUR 0 (-20 .. 20; 0 is above FIELD 0), WET (1 .. 30), HIGH (1 .. 9)");
        int[][] taken = {{-20, 5, 5}, {20, 5, 5}, {0, 1, 5}, {0, 30, 5}, {0, 5, 1}, {0, 5, 9}};
        int[][] refused = {{-21, 5, 5}, {21, 5, 5}, {0, 0, 5}, {0, 31, 5}, {0, 5, 0}, {0, 5, 10}};
        RainAccount r = Check.with(EIGHT);
        for (int c = 0; c < 6; c++) {
            check.due("refused cloud", r.cloud(refused[c][0], refused[c][1], refused[c][2]), -2);
            check.due("taken cloud", r.cloud(taken[c][0], taken[c][1], taken[c][2]), c);
            check.due("where", r.ofCloud(c, 0, 0), 100 + taken[c][0]);
            check.due("wet", r.ofCloud(c, 0, 1), taken[c][1]);
            check.due("high", r.ofCloud(c, 0, 2), taken[c][2]);
        }
    }

    private static void aboveFields() {
        check.says("0 is above FIELD 0");
        for (int at = -1; at <= 8; at++) {
            RainAccount r = Check.with(EIGHT);
            r.cloud(at, 30, 1);
            for (int f = 0; f < 8; f++) {
                r.shot(0, f, 0, 3);
            }
            for (int f = 0; f < 8; f++) {
                check.due("fell on " + f + " by a cloud at " + at, r.fell(f, 0, 0), f == at ? 3 : 0);
            }
        }
    }

    private static void drawnOn() {
        check.says("HOURS are 0 .. 11: in each HOUR a CLOUD is as many FIELDS on as WIND (-3 .. 3) times HOUR tells.");
        RainAccount r = Check.with(EIGHT);
        r.cloud(-20, 5, 5);
        r.cloud(20, 5, 5);
        for (int wind = -3; wind <= 3; wind++) {
            r.set(0, wind);
            for (int hour = 0; hour < 12; hour++) {
                check.due("where 0 is", r.ofCloud(0, hour, 0), 80 + wind * hour);
                check.due("where 1 is", r.ofCloud(1, hour, 0), 120 + wind * hour);
            }
        }
        check.says("Of a CLOUD in an HOUR: 0 where it is (and 100), 1 how WET it is as the HOUR begins, 2 HIGH.");
        r.set(0, -3);
        check.due("the least there is", r.ofCloud(0, 11, 0), 100 - 20 - 33);
        r.set(0, 3);
        check.due("the most there is", r.ofCloud(1, 11, 0), 100 + 20 + 33);
        check.due("hour 12", r.ofCloud(0, 12, 0), -2);
        check.due("hour -1", r.ofCloud(0, -1, 0), -2);
        check.due("what 3", r.ofCloud(0, 11, 3), -2);
        check.due("what -1", r.ofCloud(0, 11, -1), -2);
    }

    private static void wetAsAnHourBegins() {
        check.says("1 how WET it is as the HOUR begins");
        RainAccount r = Check.with("019;199");
        r.set(1, 3);
        r.cloud(0, 30, 3);
        r.cloud(1, 30, 4);
        r.shot(0, 0, 0, 4);
        r.shot(2, 0, 11, 9);
        for (int hour = 0; hour < 12; hour++) {
            check.due("wet in hour " + hour, r.ofCloud(0, hour, 1), hour == 0 ? 30 : 26 - hour);
            check.due("wet, if too high to rain", r.ofCloud(1, hour, 1), 30);
        }
    }

    private static void eightShots() {
        check.says("SHOTS, 8 at most, numbered by how many there are ahead (the first one is 0)");
        RainAccount r = Check.with(EIGHT);
        check.due("none", r.many(2), 0);
        for (int s = 0; s < 8; s++) {
            check.due("ofShot behind the last", r.ofShot(s, 0), -1);
            check.due("shot", r.shot(s % 3, s, 11 - s, 1 + s), s);
            check.due("many(2)", r.many(2), s + 1);
        }
        check.due("a ninth", r.shot(0, 0, 0, 1), -4);
        check.due("a ninth, as told not", r.shot(0, 0, 0, 10), -2);
        for (int s = 0; s < 8; s++) {
            int[] want = {s % 3, s, 11 - s, 1 + s};
            for (int what = 0; what < 4; what++) {
                check.due("ofShot(" + s + ", " + what + ")", r.ofShot(s, what), want[what]);
            }
        }
        check.due("no ninth", r.ofShot(8, 0), -1);
    }

    private static void shotNumbers() {
        check.says("of a kind, from a FIELD, in an HOUR, with POWDER (1 .. 9)");
        int[][] taken = {{0, 0, 0, 1}, {2, 7, 11, 9}};
        int[][] outside = {{-1, 0, 0, 1}, {3, 0, 0, 1}, {0, 0, -1, 1}, {0, 0, 12, 1}, {0, 0, 0, 0}, {0, 0, 0, 10}};
        RainAccount r = Check.with(EIGHT);
        for (int s = 0; s < 2; s++) {
            int[] t = taken[s];
            check.due("taken shot", r.shot(t[0], t[1], t[2], t[3]), s);
            for (int what = 0; what < 4; what++) {
                check.due("ofShot", r.ofShot(s, what), t[what]);
            }
        }
        for (int[] o : outside) {
            check.due("refused shot", r.shot(o[0], o[1], o[2], o[3]), -2);
        }
        check.due("field 8", r.shot(0, 8, 0, 1), -1);
        check.due("field -1", r.shot(0, -1, 0, 1), -1);
    }

    private static void kinds() {
        check.says("Kinds: 0 SHOT; 1 ROCKET, a SHOT; 2 BOMB, a ROCKET.");
        RainAccount r = Check.with(EIGHT);
        for (int kind = -1; kind <= 3; kind++) {
            boolean is = kind >= 0 && kind < 3;
            check.due("shot of kind " + kind, r.shot(kind, 0, 0, 1), is ? kind : -2);
            check.due("its kind", r.ofShot(kind, 0), is ? kind : -1);
            for (int as = 0; as < 3 && is; as++) {
                check.due("kind " + kind + " as " + as, r.as(kind, as), as <= kind ? 1 : -12);
            }
        }
    }

    private static void reaches() {
        check.says("(a SHOT as high as POWDER, a ROCKET, a BOMB twice as high)");
        for (int kind = 0; kind < 3; kind++) {
            for (int powder = 1; powder <= 9; powder++) {
                RainAccount r = Check.with(EIGHT);
                r.shot(kind, 3, 3, powder);
                check.due("reach of kind " + kind, r.ofShot(0, 4), kind == 0 ? powder : 2 * powder);
            }
        }
    }

    private static void takenBack() {
        check.says("The last k SHOTS (0 .. as many as there are) are taken back: how many are left.");
        check.due("none of none", new RainAccount().back(0), 0);
        check.due("one of none", new RainAccount().back(1), -2);
        for (int count = 0; count <= 8; count++) {
            for (int k = -1; k <= count + 1; k++) {
                RainAccount r = Check.with(EIGHT);
                for (int s = 0; s < count; s++) {
                    r.shot(0, s, s, 1 + s);
                }
                boolean is = k >= 0 && k <= count;
                int left = is ? count - k : count;
                check.due("back(" + k + ") of " + count, r.back(k), is ? left : -2);
                check.due("many(2)", r.many(2), left);
                check.due("the first one that is gone", r.ofShot(left, 3), -1);
                check.due("the last one that is left", r.ofShot(left - 1, 3), left == 0 ? -1 : left);
                check.due("the next one's number", r.shot(1, 0, 0, 5), left == 8 ? -4 : left);
            }
        }
    }
}
