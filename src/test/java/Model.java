import java.math.BigInteger;
import java.util.ArrayList;
import java.util.Arrays;
import java.util.List;
import java.util.function.IntPredicate;

/** The document read a second time, plainly and slowly, for comparing; it shares nothing with the class. */
final class Model {
    record Cloud(int at, int wet, int high) { }

    record Shot(int kind, int field, int hour, int powder) {
        int reach() {
            return kind == 0 ? powder : powder * 2;
        }
    }

    /** What came of a day. */
    static final class Outcome {
        int[] rain;
        int[] hail;
        int[] wet;
        int[] amount;
        int[] source;
    }

    static final long LOST = Long.MIN_VALUE;

    List<int[]> fields = new ArrayList<>();
    List<Cloud> clouds = new ArrayList<>();
    List<Shot> shots = new ArrayList<>();
    int wind;
    int low;
    int forbidden;
    int trace;
    int fault;
    final int[][] sheets = new int[4][];
    final int[] sorts = new int[4];

    private static boolean in(int v, int a, int b) {
        return a <= v && v <= b;
    }

    private int fails(int which) {
        fault = which;
        return -10 - which;
    }

    private boolean cellsThere(int k, int i, int n) {
        int there = sheets[k].length;
        return in(i, 0, there) && n >= 0 && (long) i + n <= there;
    }

    int plain(int sheet, int sort, int i, int n) {
        fault = 0;
        if (!in(sheet, 0, 3)) {
            return -1;
        }
        if (!in(sort, 0, 2)) {
            return -2;
        }
        if (sheets[sheet] != null && sorts[sheet] != sort) {
            return fails(2);
        }
        if (sheets[sheet] == null) {
            return fails(1);
        }
        if (n < 0) {
            return fails(4);
        }
        if (!cellsThere(sheet, i, n)) {
            return fails(3);
        }
        // The longest prefix that some text starts with: a text is [0-3][0-9][0-9](;[0-3][0-9][0-9]){1,7}.
        List<int[]> read = new ArrayList<>();
        int[] row = Arrays.copyOfRange(sheets[sheet], i, i + n);
        int p = 0;
        while (true) {
            int[] field = new int[3];
            for (int d = 0; d < 3; d++) {
                if (p >= n || row[p] < '0' || row[p] > (d == 0 ? '3' : '9')) {
                    return -100 - p;
                }
                field[d] = row[p++] - '0';
            }
            read.add(field);
            if (p == n && read.size() >= 2) {
                break;
            }
            if (p >= n || row[p] != ';' || read.size() == 8) {
                return -100 - p;
            }
            p++;
        }
        fields = read;
        clouds = new ArrayList<>();
        shots = new ArrayList<>();
        wind = 0;
        low = 0;
        forbidden = 0;
        return fields.size();
    }

    int ofField(int f, int what) {
        return !in(f, 0, fields.size() - 1) ? -1 : !in(what, 0, 2) ? -2 : fields.get(f)[what];
    }

    int set(int what, int v) {
        boolean told = what == 0 && in(v, -3, 3) || what == 1 && in(v, 0, 9) || what == 2 && in(v, 0, 4095);
        if (!told) {
            return -2;
        }
        if (fields.isEmpty()) {
            return -3;
        }
        int was = what == 0 ? wind + 10 : what == 1 ? low : forbidden;
        if (what == 0) {
            wind = v;
        }
        if (what == 1) {
            low = v;
        }
        if (what == 2) {
            forbidden = v;
        }
        return was;
    }

    int cloud(int at, int wet, int high) {
        if (!in(at, -20, 20) || !in(wet, 1, 30) || !in(high, 1, 9)) {
            return -2;
        }
        if (fields.isEmpty()) {
            return -3;
        }
        if (clouds.size() == 6) {
            return -4;
        }
        clouds.add(new Cloud(at, wet, high));
        return clouds.size() - 1;
    }

    int ofCloud(int c, int hour, int what) {
        if (!in(c, 0, clouds.size() - 1)) {
            return -1;
        }
        if (!in(hour, 0, 11) || !in(what, 0, 2)) {
            return -2;
        }
        if (what == 0) {
            return clouds.get(c).at + hour * wind + 100;
        }
        return what == 2 ? clouds.get(c).high : day(shots, wind, hour).wet[c];
    }

    int shot(int kind, int field, int hour, int powder) {
        if (!in(field, 0, fields.size() - 1)) {
            return -1;
        }
        if (!in(kind, 0, 2) || !in(hour, 0, 11) || !in(powder, 1, 9)) {
            return -2;
        }
        if (shots.size() == 8) {
            return -4;
        }
        shots.add(new Shot(kind, field, hour, powder));
        return shots.size() - 1;
    }

    private boolean isShot(int s) {
        return in(s, 0, shots.size() - 1);
    }

    int ofShot(int s, int what) {
        if (!isShot(s)) {
            return -1;
        }
        if (!in(what, 0, 4)) {
            return -2;
        }
        Shot o = shots.get(s);
        return new int[] {o.kind, o.field, o.hour, o.powder, o.reach()}[what];
    }

    int back(int k) {
        if (!in(k, 0, shots.size())) {
            return -2;
        }
        shots = new ArrayList<>(shots.subList(0, shots.size() - k));
        return shots.size();
    }

    Outcome day(List<Shot> fired, int byWind, int hours) {
        Outcome o = new Outcome();
        o.rain = new int[fields.size()];
        o.hail = new int[fields.size()];
        o.wet = clouds.stream().mapToInt(Cloud::wet).toArray();
        o.amount = new int[fired.size()];
        o.source = new int[fired.size()];
        Arrays.fill(o.source, -9);
        for (int h = 0; h < hours; h++) {
            for (int c = 0; c < clouds.size(); c++) {
                int above = clouds.get(c).at + byWind * h;
                if (in(above, 0, fields.size() - 1) && clouds.get(c).high <= low && o.wet[c] >= 1) {
                    o.wet[c] -= 1;
                    o.rain[above] += 1;
                }
            }
            for (int s = 0; s < fired.size(); s++) {
                Shot one = fired.get(s);
                if (one == null || one.hour != h) {
                    continue;
                }
                for (int high = 1; high <= one.reach() && o.source[s] < 0; high++) {
                    for (int c = 0; c < clouds.size() && o.source[s] < 0; c++) {
                        Cloud k = clouds.get(c);
                        if (k.high == high && o.wet[c] > 0 && k.at + byWind * h == one.field) {
                            o.source[s] = c;
                        }
                    }
                }
                int c = o.source[s];
                if (c >= 0) {
                    int all = o.wet[c] < one.powder ? o.wet[c] : one.powder;
                    int ice = one.kind == 2 ? all / 3 : 0;
                    o.wet[c] -= all;
                    o.amount[s] = all;
                    o.hail[one.field] += ice;
                    o.rain[one.field] += all - ice;
                }
            }
        }
        return o;
    }

    private int yieldOf(Outcome o, IntPredicate which) {
        int sum = 0;
        for (int f = 0; f < fields.size(); f++) {
            int[] d = fields.get(f);
            if (which.test(f)) {
                sum += Math.max(0, d[2] * Math.min(d[1], o.rain[f]) - 2 * o.hail[f]);
            }
        }
        return sum;
    }

    private int ofClub(Outcome o, int club) {
        return yieldOf(o, f -> club < 0 || fields.get(f)[0] == club);
    }

    private List<Shot> without(int s) {
        List<Shot> rest = new ArrayList<>(shots);
        rest.set(s, null);
        return rest;
    }

    int fell(int f, int hour, int what) {
        if (!in(f, 0, fields.size() - 1)) {
            return -1;
        }
        if (!in(hour, 0, 11) || !in(what, 0, 1)) {
            return -2;
        }
        Outcome o = day(shots, wind, hour + 1);
        return (what == 0 ? o.rain : o.hail)[f];
    }

    int by(int s, int what) {
        if (!isShot(s)) {
            return -1;
        }
        if (!in(what, 0, 1)) {
            return -2;
        }
        Outcome o = day(shots, wind, 12);
        return (what == 0 ? o.amount : o.source)[s];
    }

    int yields(int f) {
        return in(f, 0, fields.size() - 1) ? yieldOf(day(shots, wind, 12), g -> g == f) : -1;
    }

    int harvest(int club) {
        return in(club, -1, 3) ? ofClub(day(shots, wind, 12), club) : -1;
    }

    long brought(int s, int club) {
        if (!isShot(s) || !in(club, -1, 3)) {
            return LOST;
        }
        return ofClub(day(shots, wind, 12), club) - ofClub(day(without(s), wind, 12), club);
    }

    int due(int s, int club) {
        return !isShot(s) || !in(club, 0, 3) ? -1 : (int) Math.max(0, -brought(s, club));
    }

    int idle(int what) {
        if (!in(what, 0, 1)) {
            return -2;
        }
        int set = 0;
        Outcome base = day(shots, wind, 12);
        for (int s = 0; s < shots.size(); s++) {
            Outcome o = day(without(s), wind, 12);
            boolean same = Arrays.equals(o.rain, base.rain) && Arrays.equals(o.hail, base.hail);
            boolean breach = (forbidden & 1 << shots.get(s).hour) != 0;
            if (what == 0 ? same : breach) {
                set += 1 << s;
            }
        }
        return set;
    }

    /** Shots of kind 0 that a club may fire more, as 12 times field and hour. */
    private List<Integer> places(int club) {
        List<Integer> all = new ArrayList<>();
        for (int f = 0; f < fields.size(); f++) {
            for (int h = 0; h < 12; h++) {
                if ((club < 0 || fields.get(f)[0] == club) && (forbidden & 1 << h) == 0) {
                    all.add(12 * f + h);
                }
            }
        }
        return all;
    }

    private Outcome more(int powder, int... places) {
        List<Shot> then = new ArrayList<>(shots);
        for (int p : places) {
            if (p < 96) {
                then.add(new Shot(0, p / 12, p % 12, powder));
            }
        }
        return day(then, wind, 12);
    }

    int oneMore(int club, int powder, int what) {
        if (!in(club, -1, 3)) {
            return -1;
        }
        if (!in(powder, 1, 9) || !in(what, 0, 2)) {
            return -2;
        }
        if (fields.isEmpty()) {
            return -3;
        }
        int best = -1;
        int place = -1;
        for (int p : places(club)) {
            int y = ofClub(more(powder, p), club);
            if (y > best) {
                best = y;
                place = p;
            }
        }
        return place < 0 ? -9 : what == 0 ? best : what == 1 ? place / 12 : place % 12;
    }

    long awaited(int c, int which) {
        if (!in(c, 0, 10) || !in(which, 0, 1)) {
            return LOST;
        }
        BigInteger upper = chance(new ArrayList<>(), c);
        BigInteger lower = BigInteger.TEN.pow(shots.size());
        BigInteger common = upper.gcd(lower);
        return (which == 0 ? upper : lower).divide(common).longValueExact();
    }

    private BigInteger chance(List<Shot> decided, int c) {
        if (decided.size() == shots.size()) {
            return BigInteger.valueOf(ofClub(day(decided, wind, 12), -1));
        }
        List<Shot> off = new ArrayList<>(decided);
        off.add(null);
        List<Shot> on = new ArrayList<>(decided);
        on.add(shots.get(decided.size()));
        return chance(on, c).multiply(BigInteger.valueOf(c)).add(chance(off, c).multiply(BigInteger.valueOf(10 - c)));
    }

    int rests(int club, int other, int powder, int what) {
        if (!in(club, 0, 3) || !in(other, 0, 3) || club == other) {
            return -1;
        }
        if (!in(powder, 1, 9) || !in(what, 0, 1)) {
            return -2;
        }
        if (fields.isEmpty()) {
            return -3;
        }
        List<Integer> ones = places(club);
        ones.add(96);
        List<Integer> others = places(other);
        others.add(96);
        int[][] one = new int[97][97];
        int[][] two = new int[97][97];
        for (int a : ones) {
            for (int b : others) {
                Outcome o = more(powder, a, b);
                one[a][b] = ofClub(o, club);
                two[a][b] = ofClub(o, other);
            }
        }
        int count = 0;
        int first = Integer.MAX_VALUE;
        for (int a : ones) {
            for (int b : others) {
                boolean rests = true;
                for (int x : ones) {
                    rests &= one[x][b] <= one[a][b];
                }
                for (int y : others) {
                    rests &= two[a][y] <= two[a][b];
                }
                if (rests) {
                    count++;
                    first = Math.min(first, 100 * a + b);
                }
            }
        }
        return what == 0 ? count : count == 0 ? -9 : first;
    }

    int bestWind(int what) {
        if (!in(what, 0, 1)) {
            return -2;
        }
        if (fields.isEmpty()) {
            return -3;
        }
        int[] sums = new int[7];
        for (int w = 0; w < 7; w++) {
            sums[w] = ofClub(day(shots, w - 3, 12), -1);
        }
        int most = Arrays.stream(sums).max().getAsInt();
        for (int w = 0; w < 7; w++) {
            if (sums[w] == most) {
                return what == 0 ? w + 7 : most;
            }
        }
        throw new IllegalStateException();
    }

    int missed(int sheet, int sort, int i) {
        fault = 0;
        if (!in(sheet, 0, 3)) {
            return -1;
        }
        if (!in(sort, 0, 2)) {
            return -2;
        }
        if (sheets[sheet] != null && sorts[sheet] != sort) {
            return fails(2);
        }
        if (sheets[sheet] == null) {
            return fails(1);
        }
        if (!cellsThere(sheet, i, fields.size())) {
            return fails(3);
        }
        if (fields.isEmpty()) {
            return -3;
        }
        int[] told = Arrays.copyOfRange(sheets[sheet], i, i + fields.size());
        int set = Arrays.equals(told, day(shots, wind, 12).rain) ? 256 : 0;
        for (int s = 0; s < shots.size(); s++) {
            if (Arrays.equals(told, day(without(s), wind, 12).rain)) {
                set += 1 << s;
            }
        }
        return set;
    }

    int sheet(int k, int sort, int n) {
        fault = 0;
        if (!in(k, 0, 3)) {
            return -1;
        }
        if (!in(sort, 0, 2) || n > 40) {
            return -2;
        }
        if (n < 0) {
            return fails(4);
        }
        sheets[k] = new int[n];
        sorts[k] = sort;
        return 1;
    }

    int lose(int k) {
        if (!in(k, 0, 3)) {
            return -1;
        }
        boolean had = sheets[k] != null;
        sheets[k] = null;
        return had ? 1 : 0;
    }

    int put(int k, int i, int v) {
        fault = 0;
        if (!in(k, 0, 3)) {
            return -1;
        }
        if (sheets[k] == null) {
            return fails(1);
        }
        if (!in(i, 0, sheets[k].length - 1)) {
            return fails(3);
        }
        int unused = new int[] {24, 16, 0}[sorts[k]];
        sheets[k][i] = v << unused >> unused;
        return 1;
    }

    long cell(int k, int i, int sort) {
        fault = 0;
        if (!in(k, 0, 3) || !in(sort, 0, 2)) {
            return LOST;
        }
        int came = sheets[k] == null ? 1 : sorts[k] != sort ? 2 : !in(i, 0, sheets[k].length - 1) ? 3 : 0;
        if (came != 0) {
            fails(came);
            return LOST;
        }
        return sheets[k][i];
    }

    int copy(int k, int i, int other, int j, int n) {
        fault = 0;
        if (!in(k, 0, 3) || !in(other, 0, 3)) {
            return -1;
        }
        if (sheets[k] == null || sheets[other] == null) {
            return fails(1);
        }
        if (sorts[k] != sorts[other]) {
            return fails(2);
        }
        if (!cellsThere(k, i, n) || !cellsThere(other, j, n)) {
            return fails(3);
        }
        int[] were = sheets[k].clone();
        for (int x = 0; x < n; x++) {
            sheets[other][j + x] = were[i + x];
        }
        return n;
    }

    private void leave(int... numbers) {
        for (int n : numbers) {
            trace = trace * 31 + n;
        }
    }

    int tell(int s) {
        if (!isShot(s)) {
            return -1;
        }
        int powder = shots.get(s).powder;
        switch (shots.get(s).kind) {
            case 0:
                leave(1);
                return powder;
            case 1:
                leave(2, 1);
                return powder + 100;
            default:
                leave(3, 2, 1, 1);
                return powder + 100 + powder;
        }
    }

    int load(int s) {
        if (!isShot(s)) {
            return -1;
        }
        boolean bomb = shots.get(s).kind == 2;
        leave(bomb ? 5 : 4);
        return bomb ? 80 : s;
    }

    int as(int s, int kind) {
        fault = 0;
        if (!isShot(s)) {
            return -1;
        }
        if (!in(kind, 0, 2)) {
            return -2;
        }
        return shots.get(s).kind >= kind ? 1 : fails(2);
    }

    int trace() {
        return trace;
    }

    int fault() {
        return fault;
    }

    int many(int what) {
        if (!in(what, 0, 5)) {
            return -2;
        }
        int[] all = {fields.size(), clouds.size(), shots.size(), wind + 10, low, forbidden};
        return what > 2 && fields.isEmpty() ? 0 : all[what];
    }
}
