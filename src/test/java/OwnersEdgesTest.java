/** Part 3 of the terms, and promises 14 to 16, by the sentences that name a boundary. */
public final class OwnersEdgesTest {
    private static final Check check = new Check();

    public static void main(String[] args) {
        allElseAsItIs();
        brought();
        broughtToEach();
        dueBelowZero();
        dueToNobody();
        idleNoneAndAll();
        idleEach();
        gotOrHail();
        onNoField();
        breachesNoneAndAll();
        breachesOfHours();
        questionsLeaveTheDay();
        check.end();
    }

    private static void allElseAsItIs() {
        check.says("the DAY as it would be if it were not fired, all else as it is");
        RainAccount r = Check.with("099;199");
        r.set(1, 1);
        r.cloud(0, 14, 1);
        r.shot(0, 0, 1, 9);
        r.shot(0, 0, 1, 9);
        r.shot(0, 0, 2, 9);
        // It drips in hours 0 and 1; without shot 0, shot 1 takes 9, and in hour 2 one drips and 2 are left to shot 2.
        check.due("without the first", r.brought(0, -1), 0);
        Check.write(r, 0, 2, 14, 0);
        check.due("14 fell, whoever is left out", r.missed(0, 2, 0), 7 | 1 << 8);
        r.back(2);
        check.due("without the only one", r.brought(0, -1), 0);
        r.set(1, 0);
        check.due("without the only one, high", r.brought(0, -1), 81);
        check.due("it is fired yet", r.by(0, 0), 9);
        RainAccount last = Check.with("099;199");
        last.cloud(0, 3, 1);
        for (int s = 0; s < 8; s++) {
            last.shot(0, 0, s == 7 ? 0 : 11, 3);
        }
        check.due("the last of eight", last.brought(7, 0), 0);
        last.back(1);
        check.due("the first of seven", last.brought(0, 0), 0);
        last.back(6);
        check.due("the first of one", last.brought(0, 0), 27);
    }

    private static void brought() {
        check.says("BROUGHT by a SHOT to a CLUB: YIELD less that WITHOUT it.");
        for (int worth = 0; worth <= 9; worth++) {
            RainAccount r = robbing(worth);
            check.due("to the one that fires", r.brought(0, 0), 5 * 2);
            check.due("to the one that is robbed", r.brought(0, 1), -5 * worth);
            check.due("to all", r.brought(0, -1), 10 - 5 * worth);
            check.due("by the robbed one's", r.brought(1, 1), 0);
        }
    }

    /** Club 0 takes all 5 from the cloud, which without it would have come to club 1. */
    private static RainAccount robbing(int worth) {
        RainAccount r = Check.with("092;19" + worth);
        r.set(0, 1);
        r.cloud(0, 5, 9);
        r.shot(0, 0, 0, 9);
        r.shot(0, 1, 1, 9);
        return r;
    }

    private static void broughtToEach() {
        check.says("BROUGHT by a SHOT to a CLUB (-1: to all).");
        RainAccount r = Check.with("091;192;293;394");
        r.cloud(3, 30, 1);
        r.shot(0, 3, 11, 5);
        long[] want = {20, 0, 0, 0, 20};
        for (int club = -1; club < 4; club++) {
            check.due("brought(0, " + club + ")", r.brought(0, club), want[club + 1]);
        }
        check.due("club 4", r.brought(0, 4), Long.MIN_VALUE);
        check.due("club -2", r.brought(0, -2), Long.MIN_VALUE);
        check.due("shot 1", r.brought(1, 0), Long.MIN_VALUE);
        check.due("shot -1", r.brought(-1, 0), Long.MIN_VALUE);
        for (int s = 1; s < 8; s++) {
            r.shot(0, 0, 0, 1);
        }
        check.due("shot 7", r.brought(7, -1), 0);
        check.due("shot 8", r.brought(8, -1), Long.MIN_VALUE);
    }

    private static void dueBelowZero() {
        check.says("DUE by it to a CLUB: what that is below 0 (told above 0; else 0).");
        for (int worth = 0; worth <= 9; worth++) {
            RainAccount r = robbing(worth);
            check.due("to the one that is robbed", r.due(0, 1), 5 * worth);
            check.due("to the one that fires", r.due(0, 0), 0);
            check.due("to one without fields", r.due(0, 2), 0);
            check.due("by the robbed one's", r.due(1, 0), 0);
        }
        RainAccount one = Check.with("011;199");
        one.cloud(0, 30, 1);
        one.shot(0, 0, 0, 1);
        one.shot(2, 0, 0, 3);
        check.due("1 less 2: 0, so 1 is due", one.due(1, 0), 1);
        check.due("brought is -1 then", one.brought(1, 0), -1);
    }

    private static void dueToNobody() {
        check.says("DUE. UNKNOWN: SHOT, CLUB (-1: so, too).");
        RainAccount r = robbing(9);
        check.due("to all", r.due(0, -1), -1);
        check.due("to all it brought less", r.brought(0, -1), -35);
        check.due("to club 4", r.due(0, 4), -1);
        check.due("to club 3", r.due(0, 3), 0);
    }

    private static void idleNoneAndAll() {
        check.says("IDLE: SHOTS without which on no FIELD GOT or HAIL were otherwise.");
        check.due("without a plain", new RainAccount().idle(0), 0);
        RainAccount r = Check.with("091;191");
        check.due("no shots", r.idle(0), 0);
        for (int s = 0; s < 8; s++) {
            r.shot(s % 3, s % 2, s, 9);
            check.due("no clouds", r.idle(0), (1 << s + 1) - 1);
        }
        check.due("none of eight", DayEdgesTest.richest().idle(0), 0);
    }

    private static void idleEach() {
        check.says("Sets are told as bits (bit k for number k).");
        for (int idler = 0; idler < 8; idler++) {
            RainAccount r = Check.with("091;191;291;391;091;191;291;391");
            for (int c = 0; c < 4; c++) {
                r.cloud(c, 30, 1);
            }
            for (int s = 0; s < 8; s++) {
                r.shot(0, s == idler ? 7 : s % 4, s, 1);
            }
            check.due("idle is " + idler, r.idle(0), 1 << idler);
            r.set(2, 1 << idler);
            check.due("breach by " + idler, r.idle(1), 1 << idler);
        }
    }

    private static void gotOrHail() {
        check.says("on no FIELD GOT or HAIL were otherwise");
        RainAccount r = Check.with("199;099");
        r.cloud(1, 3, 1);
        r.shot(2, 1, 0, 3);
        r.shot(0, 1, 1, 2);
        check.due("without the bomb 2 were got, too, but no hail", r.idle(0), 2);
        check.due("2 rain", r.fell(1, 11, 0), 2);
        check.due("1 hail", r.fell(1, 11, 1), 1);
        RainAccount rain = Check.with("199;090");
        rain.cloud(1, 3, 1);
        rain.shot(0, 1, 0, 3);
        check.due("it got, though it is worth nothing", rain.idle(0), 0);
        check.due("nothing brought", rain.brought(0, 0), 0);
        RainAccount same = Check.with("199;099");
        same.cloud(1, 3, 1);
        same.cloud(1, 3, 2);
        same.shot(0, 1, 0, 3);
        same.shot(0, 1, 0, 3);
        same.shot(0, 1, 0, 3);
        check.due("it fell, but by another one it would have", same.idle(0), 7);
    }

    private static void onNoField() {
        check.says("without which on no FIELD");
        for (int f = 0; f < 8; f++) {
            RainAccount r = Check.with("091;191;291;391;091;191;291;391");
            r.cloud(f, 9, 1);
            r.shot(0, f, 0, 1);
            r.shot(2, f, 0, 3);
            r.shot(0, (f + 1) % 8, 0, 1);
            check.due("on field " + f, r.idle(0), 4);
        }
    }

    private static void breachesNoneAndAll() {
        check.says("BREACHES: SHOTS in a FORBIDDEN HOUR (a set of HOURS).");
        check.due("without a plain", new RainAccount().idle(1), 0);
        RainAccount r = Check.with("091;191");
        r.set(2, 4095);
        check.due("no shots", r.idle(1), 0);
        for (int s = 0; s < 8; s++) {
            r.shot(0, 0, s + 4, 1);
            check.due("all are forbidden", r.idle(1), (1 << s + 1) - 1);
        }
        r.set(2, 15);
        check.due("none is", r.idle(1), 0);
        r.set(2, 0);
        check.due("nothing is forbidden", r.idle(1), 0);
    }

    private static void breachesOfHours() {
        check.says("(a set of HOURS)");
        RainAccount r = Check.with("091;191");
        for (int hour = 0; hour < 12; hour++) {
            r.shot(0, 0, hour, 1);
            for (int forbidden = 0; forbidden < 12; forbidden++) {
                r.set(2, 1 << forbidden);
                check.due("hour " + hour + ", forbidden " + forbidden, r.idle(1), hour == forbidden ? 1 : 0);
                r.set(2, 4095 - (1 << forbidden));
                check.due("hour " + hour + ", allowed " + forbidden, r.idle(1), hour == forbidden ? 0 : 1);
            }
            r.back(1);
            if (hour == 5) {
                // Behind 512 calls nothing is promised.
                r = Check.with("091;191");
            }
        }
    }

    private static void questionsLeaveTheDay() {
        check.says("WITHOUT a SHOT: the DAY as it would be");
        RainAccount r = Scene.FULL.make(Scene.CAST);
        String before = Sight.of(Scene.FULL.make(Scene.CAST));
        for (int s = 0; s < 8; s++) {
            r.brought(s, s % 5 - 1);
            r.due(s, s % 4);
        }
        r.idle(0);
        r.idle(1);
        check.same("owners", Sight.of(r), before);
    }
}
