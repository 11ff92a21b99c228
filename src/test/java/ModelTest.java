import java.util.Random;

/** Runs of 512 calls, by fixed seeds: the class answers as the model does, and never throws. */
public final class ModelTest {
    private static final int RUNS = 1500;
    private static final int CALLS = 512;
    private static final int[] ODD = {
        Integer.MIN_VALUE, Integer.MAX_VALUE, -2, -1, 0, 1, 2, 3, 4, 5, 8, 9, 10, 11, 12, 13, 40, 41, 4095, 4096,
    };

    private final Random random;
    private final RainAccount r = new RainAccount();
    private final Model m = new Model();
    private final StringBuilder told = new StringBuilder();
    /** How often an argument is an odd one, in a hundred. */
    private final int odd;
    private int calls = 0;
    private boolean good = true;

    private ModelTest(long seed) {
        random = new Random(seed);
        odd = random.nextInt(3) == 0 ? 12 : 2;
    }

    public static void main(String[] args) {
        for (int seed = 0; seed < RUNS; seed++) {
            ModelTest t = new ModelTest(seed);
            t.run();
            if (!t.good) {
                System.out.println("seed " + seed + ", the last calls:");
                System.out.println(t.told.substring(Math.max(0, t.told.length() - 3000)));
                System.exit(1);
            }
        }
    }

    private void run() {
        while (calls < CALLS && good) {
            int pick = random.nextInt(100);
            if (m.fields.isEmpty() && pick < 60 || pick < 1) {
                makePlain();
            } else if (m.clouds.size() < 3 && pick < 50 || m.shots.size() < 3 && pick < 30) {
                one(random.nextBoolean() ? 4 : 6);
            } else if (pick < 5) {
                tellMissed();
            } else {
                one(random.nextInt(31));
            }
        }
    }

    private int arg(int least, int most) {
        if (random.nextInt(100) < odd) {
            return ODD[random.nextInt(ODD.length)];
        }
        return least + random.nextInt(most - least + 1);
    }

    private void same(String call, long got, long want) {
        calls++;
        told.append(call).append(" -> ").append(got).append('\n');
        if (got != want) {
            told.append("due is ").append(want).append('\n');
            good = false;
        }
    }

    private void makePlain() {
        int fields = 1 + random.nextInt(9);
        int n = 4 * fields - 1;
        int k = random.nextInt(4);
        int sort = random.nextInt(3);
        int from = random.nextInt(3);
        same("sheet", r.sheet(k, sort, n + from), m.sheet(k, sort, n + from));
        if (n + from > 40) {
            return;
        }
        int clubs = 1 + random.nextInt(4);
        for (int i = 0; i < n; i++) {
            int code = i % 4 == 3 ? ';' : '0' + random.nextInt(i % 4 == 0 ? clubs : 10);
            if (random.nextInt(150) == 0) {
                code = 46 + random.nextInt(16);
            }
            same("put " + code, r.put(k, from + i, code), m.put(k, from + i, code));
        }
        int less = random.nextInt(20) == 0 ? random.nextInt(n + 1) : 0;
        same("plain", r.plain(k, sort, from, n - less), m.plain(k, sort, from, n - less));
    }

    /** Cells by what is got now, or without a shot, perhaps one of them otherwise. */
    private void tellMissed() {
        int k = random.nextInt(4);
        int n = m.fields.size();
        same("sheet", r.sheet(k, 2, n), m.sheet(k, 2, n));
        boolean less = !m.shots.isEmpty() && random.nextBoolean();
        var fired = new java.util.ArrayList<>(m.shots);
        if (less) {
            fired.set(random.nextInt(fired.size()), null);
        }
        int[] rain = m.day(fired, m.wind, 12).rain;
        for (int i = 0; i < n; i++) {
            int v = rain[i] + (random.nextInt(30) == 0 ? 1 : 0);
            same("put", r.put(k, i, v), m.put(k, i, v));
        }
        same("missed", r.missed(k, 2, 0), m.missed(k, 2, 0));
    }

    private void one(int which) {
        int a;
        int b;
        int c;
        int d;
        int e;
        int most = m.fields.size();
        switch (which) {
            case 0: a = arg(0, 3); b = arg(0, 2); c = arg(0, 4); d = arg(0, 40);
                same(call("plain", a, b, c, d), r.plain(a, b, c, d), m.plain(a, b, c, d)); break;
            case 1: a = arg(0, most); b = arg(0, 2);
                same(call("ofField", a, b), r.ofField(a, b), m.ofField(a, b)); break;
            case 2: a = arg(0, 2); b = a == 2 ? random.nextInt(4096) & random.nextInt(4096) : arg(a == 0 ? -3 : 0, a == 0 ? 3 : 9);
                same(call("set", a, b), r.set(a, b), m.set(a, b)); break;
            case 3: a = arg(0, m.shots.size()); a = random.nextInt(4) == 0 ? a : Math.min(a, 1);
                same(call("back", a), r.back(a), m.back(a)); break;
            case 4: a = random.nextInt(3) == 0 ? arg(-20, 20) : arg(-3, 10); b = arg(1, 30); c = arg(1, 9);
                same(call("cloud", a, b, c), r.cloud(a, b, c), m.cloud(a, b, c)); break;
            case 5: a = arg(0, 6); b = arg(0, 11); c = arg(0, 2);
                same(call("ofCloud", a, b, c), r.ofCloud(a, b, c), m.ofCloud(a, b, c)); break;
            case 6: case 30: shoot(); break;
            case 7: a = arg(0, 8); b = arg(0, 4);
                same(call("ofShot", a, b), r.ofShot(a, b), m.ofShot(a, b)); break;
            case 8: case 9: a = arg(0, most); b = arg(0, 11); c = arg(0, 1);
                same(call("fell", a, b, c), r.fell(a, b, c), m.fell(a, b, c)); break;
            case 10: a = arg(0, 8); b = arg(0, 1);
                same(call("by", a, b), r.by(a, b), m.by(a, b)); break;
            case 11: a = arg(0, most);
                same(call("yields", a), r.yields(a), m.yields(a)); break;
            case 12: a = arg(-1, 3);
                same(call("harvest", a), r.harvest(a), m.harvest(a)); break;
            case 13: a = arg(0, 8); b = arg(-1, 3);
                same(call("brought", a, b), r.brought(a, b), m.brought(a, b)); break;
            case 14: a = arg(0, 8); b = arg(-1, 3);
                same(call("due", a, b), r.due(a, b), m.due(a, b)); break;
            case 15: a = arg(0, 1);
                same(call("idle", a), r.idle(a), m.idle(a)); break;
            case 16: a = arg(-1, 3); b = arg(1, 9); c = arg(0, 2);
                same(call("oneMore", a, b, c), r.oneMore(a, b, c), m.oneMore(a, b, c)); break;
            case 17: a = arg(0, 10); b = arg(0, 1);
                same(call("awaited", a, b), r.awaited(a, b), m.awaited(a, b)); break;
            case 18: a = arg(0, 3); b = arg(0, 3); c = arg(1, 9); d = arg(0, 1);
                if (random.nextInt(4) == 0) {
                    same(call("rests", a, b, c, d), r.rests(a, b, c, d), m.rests(a, b, c, d));
                }
                break;
            case 19: a = arg(0, 1);
                same(call("bestWind", a), r.bestWind(a), m.bestWind(a)); break;
            case 20: a = arg(0, 3); b = arg(0, 2); c = arg(0, 4);
                same(call("missed", a, b, c), r.missed(a, b, c), m.missed(a, b, c)); break;
            case 21: a = arg(0, 3); b = arg(0, 2); c = arg(0, 40);
                same(call("sheet", a, b, c), r.sheet(a, b, c), m.sheet(a, b, c)); break;
            case 22: a = arg(0, 3);
                if (random.nextInt(3) == 0) {
                    same(call("lose", a), r.lose(a), m.lose(a));
                }
                break;
            case 23: a = arg(0, 3); b = arg(0, 39); c = random.nextInt() >> random.nextInt(32);
                same(call("put", a, b, c), r.put(a, b, c), m.put(a, b, c)); break;
            case 24: a = arg(0, 3); b = arg(0, 39); c = arg(0, 2);
                same(call("cell", a, b, c), r.cell(a, b, c), m.cell(a, b, c)); break;
            case 25: a = arg(0, 3); b = arg(0, 20); c = arg(0, 3); d = arg(0, 20); e = arg(0, 15);
                same(call("copy", a, b, c, d, e), r.copy(a, b, c, d, e), m.copy(a, b, c, d, e)); break;
            case 26: a = arg(0, 8);
                same(call("tell", a), r.tell(a), m.tell(a)); break;
            case 27: a = arg(0, 8);
                same(call("load", a), r.load(a), m.load(a)); break;
            case 28: a = arg(0, 8); b = arg(0, 2);
                same(call("as", a, b), r.as(a, b), m.as(a, b)); break;
            default: a = arg(0, 5);
                same("trace", r.trace(), m.trace());
                same(call("many", a), r.many(a), m.many(a)); break;
        }
        same("fault", r.fault(), m.fault());
    }

    /** Mostly where a cloud is, so that something comes of it. */
    private void shoot() {
        int kind = arg(0, 2);
        int hour = arg(0, 11);
        int powder = arg(1, 9);
        int field = arg(0, Math.max(0, m.fields.size() - 1));
        if (!m.clouds.isEmpty() && random.nextInt(4) != 0) {
            Model.Cloud c = m.clouds.get(random.nextInt(m.clouds.size()));
            int h = random.nextInt(12);
            int at = c.at() + m.wind * h;
            if (at >= 0 && at < m.fields.size()) {
                hour = h;
                field = at;
            }
        }
        same(call("shot", kind, field, hour, powder), r.shot(kind, field, hour, powder), m.shot(kind, field, hour, powder));
    }

    private static String call(String name, int... args) {
        return name + java.util.Arrays.toString(args);
    }
}
