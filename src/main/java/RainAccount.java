/** Rain on account: what falls on the fields of a plain, by whose shots, and what it is worth to whom. */
public final class RainAccount {
    public static final int UNKNOWN = -1, OUTSIDE = -2, STATE = -3, FULL = -4, NONE = -9;
    public static final long LOST = Long.MIN_VALUE;

    private static final int NO_FAULT = 0, FAULT_NULL = 1, FAULT_CAST = 2, FAULT_INDEX = 3, FAULT_SIZE = 4;
    private static final int KINDS = 3, ROCKET = 1, BOMB = 2;
    private static final int SORTS = 3;
    private static final int CLUBS = 4, ALL = -1;
    private static final int HOURS = 12;
    private static final int MOST_WIND = 3;
    private static final int MOST_POWDER = 9;
    private static final int SHEETS = 4;

    private final Sheet[] rows;
    private final Land land;
    private final Sky sky;
    private final Shots shots;
    private final Day day;
    private final Account account;
    private final Duel duel;
    private int left;
    private int lastFault;

    public RainAccount() {
        rows = new Sheet[SHEETS];
        for (int k = 0; k < SHEETS; k++) {
            rows[k] = new Sheet();
        }
        land = new Land();
        sky = new Sky();
        shots = new Shots();
        day = new Day(land, sky, shots);
        account = new Account(land, shots, day);
        duel = new Duel(land, shots, day);
        left = 0;
        lastFault = NO_FAULT;
    }

    // ---- 1 the plain

    public int plain(int sheet, int sort, int i, int n) {
        lastFault = NO_FAULT;
        if (!isSheet(sheet)) {
            return UNKNOWN;
        }
        if (!isSort(sort)) {
            return OUTSIDE;
        }
        Sheet text = rows[sheet];
        int first = text.faultOfCells(sort, i, n);
        if (first != NO_FAULT) {
            return faulted(first);
        }
        int place = Land.faultOfText(text, i, n);
        if (place >= 0) {
            return -100 - place;
        }
        land.takeText(text, i, n);
        sky.count = 0;
        shots.count = 0;
        return land.count;
    }

    public int ofField(int f, int what) {
        if (!land.isField(f)) {
            return UNKNOWN;
        }
        switch (what) {
            case 0: return land.club[f];
            case 1: return land.need[f];
            case 2: return land.worth[f];
            default: return OUTSIDE;
        }
    }

    public int set(int what, int v) {
        if (!isSetting(what, v)) {
            return OUTSIDE;
        }
        if (land.count == 0) {
            return STATE;
        }
        int was;
        if (what == 0) {
            was = land.wind + 10;
            land.wind = v;
        } else if (what == 1) {
            was = land.low;
            land.low = v;
        } else {
            was = land.forbidden;
            land.forbidden = v;
        }
        return was;
    }

    public int cloud(int at, int wet, int high) {
        if (!isWithin(at, -20, 20) || !isWithin(wet, 1, 30) || !isWithin(high, 1, 9)) {
            return OUTSIDE;
        }
        if (land.count == 0) {
            return STATE;
        }
        if (sky.count >= Sky.MOST) {
            return FULL;
        }
        return sky.add(at, wet, high);
    }

    public int ofCloud(int c, int hour, int what) {
        if (!sky.isCloud(c)) {
            return UNKNOWN;
        }
        if (!isHour(hour) || !isWithin(what, 0, 2)) {
            return OUTSIDE;
        }
        if (what == 0) {
            return sky.placeOf(c, land.wind, hour) + 100;
        }
        if (what == 2) {
            return sky.high[c];
        }
        day.runUpTo(hour);
        return day.left[c];
    }

    public int shot(int kind, int field, int hour, int powder) {
        if (!land.isField(field)) {
            return UNKNOWN;
        }
        if (!isKind(kind) || !isHour(hour) || !isPowder(powder)) {
            return OUTSIDE;
        }
        if (shots.count >= Shots.MOST) {
            return FULL;
        }
        int number = shots.count;
        shots.write(number, kind, field, hour, powder);
        shots.count = number + 1;
        return number;
    }

    public int ofShot(int s, int what) {
        if (!shots.isShot(s)) {
            return UNKNOWN;
        }
        switch (what) {
            case 0: return shots.kind[s];
            case 1: return shots.field[s];
            case 2: return shots.hour[s];
            case 3: return shots.powder[s];
            case 4: return shots.reachOf(s);
            default: return OUTSIDE;
        }
    }

    public int back(int k) {
        if (!isWithin(k, 0, shots.count)) {
            return OUTSIDE;
        }
        shots.count -= k;
        return shots.count;
    }

    // ---- 2 the day

    public int fell(int f, int hour, int what) {
        if (!land.isField(f)) {
            return UNKNOWN;
        }
        if (!isHour(hour) || !isWithin(what, 0, 1)) {
            return OUTSIDE;
        }
        day.runUpTo(hour + 1);
        return what == 0 ? day.got[f] : day.hail[f];
    }

    public int by(int s, int what) {
        if (!shots.isShot(s)) {
            return UNKNOWN;
        }
        if (!isWithin(what, 0, 1)) {
            return OUTSIDE;
        }
        day.runUpTo(HOURS);
        return what == 0 ? day.amount[s] : day.source[s];
    }

    public int yields(int f) {
        if (!land.isField(f)) {
            return UNKNOWN;
        }
        day.runUpTo(HOURS);
        return day.yieldOfField(f);
    }

    public int harvest(int club) {
        if (club != ALL && !isClub(club)) {
            return UNKNOWN;
        }
        day.runUpTo(HOURS);
        return day.yieldOf(club);
    }

    // ---- 3 whose rain it was

    public long brought(int s, int club) {
        if (!shots.isShot(s) || (club != ALL && !isClub(club))) {
            return LOST;
        }
        return account.gainBy(s, club);
    }

    public int due(int s, int club) {
        if (!shots.isShot(s) || !isClub(club)) {
            return UNKNOWN;
        }
        return Math.max(0, -account.gainBy(s, club));
    }

    public int idle(int what) {
        switch (what) {
            case 0: return account.idleSet();
            case 1: return account.breachSet();
            default: return OUTSIDE;
        }
    }

    // ---- 4 plans, duels

    public int oneMore(int club, int powder, int what) {
        if (club != ALL && !isClub(club)) {
            return UNKNOWN;
        }
        if (!isPowder(powder) || !isWithin(what, 0, 2)) {
            return OUTSIDE;
        }
        if (land.count == 0) {
            return STATE;
        }
        account.seekOneMore(club, powder);
        if (account.bestPlace == NONE) {
            return NONE;
        }
        switch (what) {
            case 0: return account.bestYield;
            case 1: return account.bestPlace / HOURS;
            default: return account.bestPlace % HOURS;
        }
    }

    public long awaited(int c, int which) {
        if (!isWithin(c, 0, 10) || !isWithin(which, 0, 1)) {
            return LOST;
        }
        long upper = account.awaitedUpper(c);
        long lower = 1;
        for (int s = 0; s < shots.count; s++) {
            lower *= 10;
        }
        long common = commonDivisor(upper, lower);
        if (common < 1) {
            return LOST;
        }
        return which == 0 ? upper / common : lower / common;
    }

    public int rests(int club, int other, int powder, int what) {
        if (!isClub(club) || !isClub(other) || club == other) {
            return UNKNOWN;
        }
        if (!isPowder(powder) || !isWithin(what, 0, 1)) {
            return OUTSIDE;
        }
        if (land.count == 0) {
            return STATE;
        }
        duel.fight(club, other, powder);
        return what == 0 ? duel.restCount : duel.firstRest;
    }

    // ---- 5 winds, what was missed

    public int bestWind(int what) {
        if (!isWithin(what, 0, 1)) {
            return OUTSIDE;
        }
        if (land.count == 0) {
            return STATE;
        }
        int best = -MOST_WIND;
        int most = -1;
        for (int wind = -MOST_WIND; wind <= MOST_WIND; wind++) {
            day.run(wind, Shots.EVERY, shots.count, HOURS);
            int sum = day.yieldOf(ALL);
            if (sum > most) {
                most = sum;
                best = wind;
            }
        }
        return what == 0 ? best + 10 : most;
    }

    public int missed(int sheet, int sort, int i) {
        lastFault = NO_FAULT;
        if (!isSheet(sheet)) {
            return UNKNOWN;
        }
        if (!isSort(sort)) {
            return OUTSIDE;
        }
        Sheet told = rows[sheet];
        int first = told.faultOfCells(sort, i, land.count);
        if (first != NO_FAULT) {
            return faulted(first);
        }
        if (land.count == 0) {
            return STATE;
        }
        return account.missedSet(told, i);
    }

    // ---- 6 sheets, parts

    public int sheet(int k, int sort, int n) {
        lastFault = NO_FAULT;
        if (!isSheet(k)) {
            return UNKNOWN;
        }
        if (!isSort(sort) || n > Sheet.MOST) {
            return OUTSIDE;
        }
        if (n < 0) {
            return faulted(FAULT_SIZE);
        }
        rows[k].renew(sort, n);
        return 1;
    }

    public int lose(int k) {
        if (!isSheet(k)) {
            return UNKNOWN;
        }
        boolean had = rows[k].hasRow();
        rows[k].clear();
        return had ? 1 : 0;
    }

    public int put(int k, int i, int v) {
        lastFault = NO_FAULT;
        if (!isSheet(k)) {
            return UNKNOWN;
        }
        Sheet at = rows[k];
        if (!at.hasRow()) {
            return faulted(FAULT_NULL);
        }
        if (!at.holds(i, 1)) {
            return faulted(FAULT_INDEX);
        }
        at.write(i, v);
        return 1;
    }

    public long cell(int k, int i, int sort) {
        lastFault = NO_FAULT;
        if (!isSheet(k) || !isSort(sort)) {
            return LOST;
        }
        Sheet at = rows[k];
        lastFault = at.faultOfCells(sort, i, 1);
        return lastFault == NO_FAULT ? at.read(i) : LOST;
    }

    public int copy(int k, int i, int other, int j, int n) {
        lastFault = NO_FAULT;
        if (!isSheet(k) || !isSheet(other)) {
            return UNKNOWN;
        }
        Sheet from = rows[k];
        Sheet to = rows[other];
        if (!from.hasRow() || !to.hasRow()) {
            return faulted(FAULT_NULL);
        }
        if (from.sort != to.sort) {
            return faulted(FAULT_CAST);
        }
        if (!from.holds(i, n) || !to.holds(j, n)) {
            return faulted(FAULT_INDEX);
        }
        System.arraycopy(from.cells, i, to.cells, j, n);
        return n;
    }

    public int tell(int s) {
        if (!shots.isShot(s)) {
            return UNKNOWN;
        }
        switch (shots.kind[s]) {
            case BOMB: return bombTold(s);
            case ROCKET: return rocketTold(s);
            default: return shotTold(s);
        }
    }

    public int load(int s) {
        if (!shots.isShot(s)) {
            return UNKNOWN;
        }
        if (shots.kind[s] == BOMB) {
            leave(5);
            return 80;
        }
        leave(4);
        return s;
    }

    public int as(int s, int kind) {
        lastFault = NO_FAULT;
        if (!shots.isShot(s)) {
            return UNKNOWN;
        }
        if (!isKind(kind)) {
            return OUTSIDE;
        }
        if (shots.kind[s] < kind) {
            return faulted(FAULT_CAST);
        }
        return 1;
    }

    public int trace() {
        return left;
    }

    public int fault() {
        return lastFault;
    }

    public int many(int what) {
        boolean bare = land.count == 0;
        switch (what) {
            case 0: return land.count;
            case 1: return sky.count;
            case 2: return shots.count;
            case 3: return bare ? 0 : land.wind + 10;
            case 4: return bare ? 0 : land.low;
            case 5: return bare ? 0 : land.forbidden;
            default: return OUTSIDE;
        }
    }

    // ---- the bodies that tell

    private int shotTold(int s) {
        leave(1);
        return shots.powder[s];
    }

    private int rocketTold(int s) {
        leave(2);
        return shotTold(s) + 100;
    }

    private int bombTold(int s) {
        leave(3);
        int asRocket = rocketTold(s);
        return asRocket + shotTold(s);
    }

    private void leave(int number) {
        left = 31 * left + number;
    }

    // ---- what numbers are

    private int faulted(int which) {
        lastFault = which;
        return -10 - which;
    }

    private static boolean isSetting(int what, int v) {
        switch (what) {
            case 0: return isWithin(v, -MOST_WIND, MOST_WIND);
            case 1: return isWithin(v, 0, 9);
            case 2: return isWithin(v, 0, (1 << HOURS) - 1);
            default: return false;
        }
    }

    private static boolean isWithin(int v, int least, int most) {
        return v >= least && v <= most;
    }

    private static boolean isSheet(int k) {
        return isWithin(k, 0, SHEETS - 1);
    }

    private static boolean isSort(int sort) {
        return isWithin(sort, 0, SORTS - 1);
    }

    private static boolean isKind(int kind) {
        return isWithin(kind, 0, KINDS - 1);
    }

    private static boolean isClub(int club) {
        return isWithin(club, 0, CLUBS - 1);
    }

    private static boolean isHour(int hour) {
        return isWithin(hour, 0, HOURS - 1);
    }

    private static boolean isPowder(int powder) {
        return isWithin(powder, 1, MOST_POWDER);
    }

    private static long commonDivisor(long a, long b) {
        long high = a;
        long low = b;
        // Euclid on longs ends within some ninety steps; the bound is only there to be seen.
        for (int step = 0; step < 200 && low != 0; step++) {
            long rest = high % low;
            high = low;
            low = rest;
        }
        return high;
    }

    /** A sheet: nothing, or a row of numbers that are cut to its sort. */
    static final class Sheet {
        static final int MOST = 40;
        private static final int NOTHING = -1;

        final int[] cells = new int[MOST];
        int sort = 0;
        private int length = NOTHING;

        boolean hasRow() {
            return length != NOTHING;
        }

        void clear() {
            length = NOTHING;
        }

        void renew(int newSort, int n) {
            sort = newSort;
            length = n;
            for (int i = 0; i < MOST; i++) {
                cells[i] = 0;
            }
        }

        /** The first fault of n cells from i on, taken as of a row of a sort. */
        int faultOfCells(int asSort, int i, int n) {
            if (!hasRow()) {
                return FAULT_NULL;
            }
            if (sort != asSort) {
                return FAULT_CAST;
            }
            if (n < 0) {
                return FAULT_SIZE;
            }
            return holds(i, n) ? NO_FAULT : FAULT_INDEX;
        }

        boolean holds(int i, int n) {
            return i >= 0 && n >= 0 && i <= length && n <= length - i;
        }

        int read(int i) {
            return i >= 0 && i < MOST ? cells[i] : 0;
        }

        void write(int i, int v) {
            if (i < 0 || i >= MOST) {
                return;
            }
            if (sort == 0) {
                cells[i] = (byte) v;
            } else if (sort == 1) {
                cells[i] = (short) v;
            } else {
                cells[i] = v;
            }
        }
    }

    /** The fields in a row, and what holds for the whole plain. */
    static final class Land {
        static final int MOST = 8;
        private static final int LEAST = 2;
        private static final int CODES = 4;

        final int[] club = new int[MOST];
        final int[] need = new int[MOST];
        final int[] worth = new int[MOST];
        int count = 0;
        int wind = 0;
        int low = 0;
        int forbidden = 0;

        boolean isField(int f) {
            return f >= 0 && f < count;
        }

        boolean isOf(int f, int ofClub) {
            return ofClub == ALL || club[f] == ofClub;
        }

        boolean isAllowed(int hour) {
            return (forbidden >> hour & 1) == 0;
        }

        /** The first fault's place; -1 if it is a text. */
        static int faultOfText(Sheet text, int i, int n) {
            for (int place = 0; place < n; place++) {
                if (!goesOn(place, text.read(i + place))) {
                    return place;
                }
            }
            boolean ends = n % CODES == CODES - 1 && n >= LEAST * CODES - 1;
            return ends ? -1 : n;
        }

        private static boolean goesOn(int place, int code) {
            int part = place % CODES;
            if (part == CODES - 1) {
                return code == ';' && place < MOST * CODES - 1;
            }
            int most = part == 0 ? '0' + CLUBS - 1 : '9';
            return code >= '0' && code <= most;
        }

        void takeText(Sheet text, int i, int n) {
            count = Math.min((n + 1) / CODES, MOST);
            for (int f = 0; f < count; f++) {
                int at = i + f * CODES;
                club[f] = text.read(at) - '0';
                need[f] = text.read(at + 1) - '0';
                worth[f] = text.read(at + 2) - '0';
            }
            wind = 0;
            low = 0;
            forbidden = 0;
        }
    }

    /** The clouds as they came, in hour 0. */
    static final class Sky {
        static final int MOST = 6;

        final int[] at = new int[MOST];
        final int[] wet = new int[MOST];
        final int[] high = new int[MOST];
        int count = 0;

        boolean isCloud(int c) {
            return c >= 0 && c < count;
        }

        int add(int newAt, int newWet, int newHigh) {
            int c = count;
            if (c >= MOST) {
                return FULL;
            }
            at[c] = newAt;
            wet[c] = newWet;
            high[c] = newHigh;
            count = c + 1;
            return c;
        }

        int placeOf(int c, int wind, int hour) {
            return at[c] + wind * hour;
        }
    }

    /** The shots by number; two more slots behind the most there can be are for those that are only tried. */
    static final class Shots {
        static final int MOST = 8;
        static final int SLOTS = MOST + 2;
        static final int EVERY = (1 << SLOTS) - 1;

        final int[] kind = new int[SLOTS];
        final int[] field = new int[SLOTS];
        final int[] hour = new int[SLOTS];
        final int[] powder = new int[SLOTS];
        int count = 0;

        boolean isShot(int s) {
            return s >= 0 && s < count;
        }

        void write(int s, int ofKind, int ofField, int inHour, int withPowder) {
            if (s < 0 || s >= SLOTS) {
                return;
            }
            kind[s] = ofKind;
            field[s] = ofField;
            hour[s] = inHour;
            powder[s] = withPowder;
        }

        int reachOf(int s) {
            return kind[s] == 0 ? powder[s] : 2 * powder[s];
        }
    }

    /** A day, run hour by hour; its rows tell what came of the latest run. */
    static final class Day {
        final int[] left = new int[Sky.MOST];
        final int[] got = new int[Land.MOST];
        final int[] hail = new int[Land.MOST];
        final int[] amount = new int[Shots.SLOTS];
        final int[] source = new int[Shots.SLOTS];
        private final Land land;
        private final Sky sky;
        private final Shots shots;

        Day(Land land, Sky sky, Shots shots) {
            this.land = land;
            this.sky = sky;
            this.shots = shots;
        }

        /** The day as it is, until the hours are over. */
        void runUpTo(int hours) {
            run(land.wind, Shots.EVERY, shots.count, hours);
        }

        /** The day by a wind, with those of the first slots that are fired. */
        void run(int wind, int fired, int slots, int hours) {
            begin();
            int most = Math.min(slots, Shots.SLOTS);
            for (int hour = 0; hour < hours; hour++) {
                drip(wind, hour);
                for (int s = 0; s < most; s++) {
                    if ((fired >> s & 1) == 1 && shots.hour[s] == hour) {
                        fire(s, wind, hour);
                    }
                }
            }
        }

        private void begin() {
            for (int c = 0; c < sky.count; c++) {
                left[c] = sky.wet[c];
            }
            for (int f = 0; f < Land.MOST; f++) {
                got[f] = 0;
                hail[f] = 0;
            }
            for (int s = 0; s < Shots.SLOTS; s++) {
                amount[s] = 0;
                source[s] = NONE;
            }
        }

        private void drip(int wind, int hour) {
            for (int c = 0; c < sky.count; c++) {
                int f = sky.placeOf(c, wind, hour);
                if (land.isField(f) && sky.high[c] <= land.low && left[c] > 0) {
                    left[c]--;
                    got[f]++;
                }
            }
        }

        private void fire(int s, int wind, int hour) {
            int f = shots.field[s];
            int c = targetOf(s, wind, hour);
            if (c < 0 || !land.isField(f)) {
                return;
            }
            int falls = Math.min(shots.powder[s], left[c]);
            int ice = shots.kind[s] == BOMB ? falls / 3 : 0;
            left[c] -= falls;
            got[f] += falls - ice;
            hail[f] += ice;
            amount[s] = falls;
            source[s] = c;
        }

        private int targetOf(int s, int wind, int hour) {
            int reach = shots.reachOf(s);
            int target = -1;
            for (int c = 0; c < sky.count; c++) {
                boolean hit = left[c] > 0 && sky.high[c] <= reach
                        && sky.placeOf(c, wind, hour) == shots.field[s];
                if (hit && (target < 0 || sky.high[c] < sky.high[target])) {
                    target = c;
                }
            }
            return target;
        }

        boolean hasCloudWithin(int reach, int f, int hour) {
            for (int c = 0; c < sky.count; c++) {
                if (sky.high[c] <= reach && sky.placeOf(c, land.wind, hour) == f) {
                    return true;
                }
            }
            return false;
        }

        int yieldOfField(int f) {
            int sum = land.worth[f] * Math.min(got[f], land.need[f]) - 2 * hail[f];
            return Math.max(0, sum);
        }

        int yieldOf(int club) {
            int sum = 0;
            for (int f = 0; f < land.count; f++) {
                if (land.isOf(f, club)) {
                    sum += yieldOfField(f);
                }
            }
            return sum;
        }
    }

    /** Days with and without shots, laid side by side. */
    static final class Account {
        int bestPlace = NONE;
        int bestYield = 0;
        private final int[] baseGot = new int[Land.MOST];
        private final int[] baseHail = new int[Land.MOST];
        private final Land land;
        private final Shots shots;
        private final Day day;

        Account(Land land, Shots shots, Day day) {
            this.land = land;
            this.shots = shots;
            this.day = day;
        }

        private void runWithout(int s) {
            day.run(land.wind, Shots.EVERY & ~(1 << s), shots.count, HOURS);
        }

        int gainBy(int s, int club) {
            day.runUpTo(HOURS);
            int with = day.yieldOf(club);
            runWithout(s);
            return with - day.yieldOf(club);
        }

        int idleSet() {
            day.runUpTo(HOURS);
            for (int f = 0; f < land.count; f++) {
                baseGot[f] = day.got[f];
                baseHail[f] = day.hail[f];
            }
            int idlers = 0;
            for (int s = 0; s < shots.count; s++) {
                runWithout(s);
                if (isAsBase()) {
                    idlers |= 1 << s;
                }
            }
            return idlers;
        }

        private boolean isAsBase() {
            for (int f = 0; f < land.count; f++) {
                if (day.got[f] != baseGot[f] || day.hail[f] != baseHail[f]) {
                    return false;
                }
            }
            return true;
        }

        int breachSet() {
            int breaches = 0;
            for (int s = 0; s < shots.count; s++) {
                if (!land.isAllowed(shots.hour[s])) {
                    breaches |= 1 << s;
                }
            }
            return breaches;
        }

        int missedSet(Sheet told, int i) {
            int found = 0;
            for (int s = 0; s < shots.count; s++) {
                runWithout(s);
                if (isAsTold(told, i)) {
                    found |= 1 << s;
                }
            }
            day.runUpTo(HOURS);
            return isAsTold(told, i) ? found | 1 << Shots.MOST : found;
        }

        private boolean isAsTold(Sheet told, int i) {
            for (int f = 0; f < land.count; f++) {
                if (day.got[f] != told.read(i + f)) {
                    return false;
                }
            }
            return true;
        }

        /** Leaves 12 times field and hour of the best shot more, and what it yields; NONE if there is no place. */
        void seekOneMore(int club, int powder) {
            bestPlace = NONE;
            bestYield = 0;
            int slot = shots.count;
            for (int place = 0; place < land.count * HOURS; place++) {
                int f = place / HOURS;
                int hour = place % HOURS;
                if (land.isOf(f, club) && land.isAllowed(hour)) {
                    shots.write(slot, 0, f, hour, powder);
                    day.run(land.wind, Shots.EVERY, slot + 1, HOURS);
                    int sum = day.yieldOf(club);
                    if (bestPlace == NONE || sum > bestYield) {
                        bestPlace = place;
                        bestYield = sum;
                    }
                }
            }
        }

        /** What is to be awaited, times ten for each shot. */
        long awaitedUpper(int c) {
            long sum = 0;
            for (int fired = 0; fired < 1 << shots.count; fired++) {
                long weight = 1;
                for (int s = 0; s < shots.count; s++) {
                    weight *= (fired >> s & 1) == 1 ? c : 10 - c;
                }
                if (weight > 0) {
                    day.run(land.wind, fired, shots.count, HOURS);
                    sum += weight * day.yieldOf(ALL);
                }
            }
            return sum;
        }
    }

    /** Two clubs that fire one shot more each, or none. */
    static final class Duel {
        private static final int NO_SHOT = 96;
        private static final int MOST_PLANS = NO_SHOT + 1;
        // The clubs share 8 fields at most: 4 and 4 make the most pairs, (4 * 12 + 1) squared.
        private static final int MOST_PAIRS = 49 * 49;
        private static final int ABOVE_YIELD = 1000;

        int restCount = 0;
        int firstRest = NONE;
        private final int[] ours = new int[MOST_PLANS];
        private final int[] theirs = new int[MOST_PLANS];
        private final int[] ourLike = new int[MOST_PLANS];
        private final int[] theirLike = new int[MOST_PLANS];
        private final int[] ourBest = new int[MOST_PLANS];
        private final int[] theirBest = new int[MOST_PLANS];
        private final int[] pay = new int[MOST_PAIRS];
        private int ourCount = 0;
        private int theirCount = 0;
        private final Land land;
        private final Shots shots;
        private final Day day;

        Duel(Land land, Shots shots, Day day) {
            this.land = land;
            this.shots = shots;
            this.day = day;
        }

        void fight(int club, int other, int powder) {
            restCount = 0;
            firstRest = NONE;
            ourCount = listPlans(club, powder, ours, ourLike);
            theirCount = listPlans(other, powder, theirs, theirLike);
            if (ourCount * theirCount > MOST_PAIRS) {
                return;
            }
            // Backwards, since what is alike stands behind.
            for (int a = ourCount - 1; a >= 0; a--) {
                for (int b = theirCount - 1; b >= 0; b--) {
                    int at = a * theirCount + b;
                    if (ourLike[a] == a && theirLike[b] == b) {
                        runPair(ours[a], theirs[b], powder);
                        pay[at] = day.yieldOf(club) * ABOVE_YIELD + day.yieldOf(other);
                    } else {
                        pay[at] = pay[ourLike[a] * theirCount + theirLike[b]];
                    }
                }
            }
            findBest();
            countRests();
        }

        /** A shot with no cloud in reach changes nothing: its day is like that of the last plan, to fire none. */
        private int listPlans(int club, int powder, int[] plans, int[] like) {
            int count = 0;
            for (int place = 0; place < land.count * HOURS; place++) {
                if (land.isOf(place / HOURS, club) && land.isAllowed(place % HOURS)) {
                    plans[count] = place;
                    count++;
                }
            }
            plans[count] = NO_SHOT;
            for (int k = 0; k < count; k++) {
                boolean acts = day.hasCloudWithin(powder, plans[k] / HOURS, plans[k] % HOURS);
                like[k] = acts ? k : count;
            }
            like[count] = count;
            return count + 1;
        }

        private void runPair(int ourPlan, int theirPlan, int powder) {
            int slot = shots.count;
            int fired = Shots.EVERY;
            if (ourPlan == NO_SHOT) {
                fired &= ~(1 << slot);
            }
            if (theirPlan == NO_SHOT) {
                fired &= ~(1 << slot + 1);
            }
            shots.write(slot, 0, ourPlan / HOURS, ourPlan % HOURS, powder);
            shots.write(slot + 1, 0, theirPlan / HOURS, theirPlan % HOURS, powder);
            day.run(land.wind, fired, slot + 2, HOURS);
        }

        /** What each club can have at most against each plan of the other one. */
        private void findBest() {
            for (int b = 0; b < theirCount; b++) {
                ourBest[b] = 0;
                for (int a = 0; a < ourCount; a++) {
                    ourBest[b] = Math.max(ourBest[b], pay[a * theirCount + b] / ABOVE_YIELD);
                }
            }
            for (int a = 0; a < ourCount; a++) {
                theirBest[a] = 0;
                for (int b = 0; b < theirCount; b++) {
                    theirBest[a] = Math.max(theirBest[a], pay[a * theirCount + b] % ABOVE_YIELD);
                }
            }
        }

        private void countRests() {
            for (int a = 0; a < ourCount; a++) {
                for (int b = 0; b < theirCount; b++) {
                    int both = pay[a * theirCount + b];
                    if (both / ABOVE_YIELD == ourBest[b] && both % ABOVE_YIELD == theirBest[a]) {
                        if (restCount == 0) {
                            firstRest = 100 * ours[a] + theirs[b];
                        }
                        restCount++;
                    }
                }
            }
        }
    }
}
