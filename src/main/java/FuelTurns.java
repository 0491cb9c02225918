/**
 * A thing goes round, and warnings come that something else will be there, too. DOC.md says what
 * each call answers; words in capitals are the document's.
 */
public final class FuelTurns {
    private static final int BEYOND = -1000000001;
    private static final int FULL = -1000000002;
    private static final int KIND = -1000000003;
    private static final int NONE = -1000000004;
    private static final int STATE = -1000000005;
    private static final int MISSING = -1000000006;
    private static final int SIZE = -1000000007;
    private static final int FINDINGS = 7;

    private static final int MILLION = 1000000;
    private static final int LAST_DAY = 999;
    private static final int TOP = 12;
    private static final int HEIGHTS = 25;
    private static final int MOST_STEPS = 24;
    private static final int MOST_FUEL = 60;
    private static final int MOST_WARNINGS = 12;
    private static final int MOST_BYTES = 60;
    private static final int MOST_AHEAD = 8;
    private static final int MOST_DAYS = 100;
    private static final int MOST_LIVES = 50;
    private static final int MOST_TILL_HOME = 40;
    private static final int MOST_CALM = 20;
    private static final int SHEETS = 4;
    private static final int MOST_NUMBERS = 40;
    private static final int PAIR_NUMBERS = 8;
    private static final int MOST_IN_ROW = 12;
    private static final int ROW_HEIGHT = 100;
    private static final int MOST_GAP = 50;
    private static final int MOST_ROW_STEPS = 20;

    private static final int PRICE = 0;
    private static final int USE = 1;
    private static final int OFF = 2;
    private static final int HARM = 3;
    private static final int KEEP = 4;
    private static final int FUEL = 5;
    private static final int[] PLAN_LEAST = {1, 0, 0, 0, 0, 0};
    private static final int[] PLAN_MOST = {9, 9999, 999, 99999999, 60, 60};

    private final World now = new World();
    private final World kept = new World();
    /** What is only thought of (a LIFE, a LOOK that might be) happens here. */
    private final World trial = new World();
    private boolean imageKept = false;
    private final byte[] tape = new byte[MOST_BYTES];
    private int tapeLength = 0;
    private final Sheet[] sheets = new Sheet[SHEETS];
    private final int[] findings = new int[FINDINGS];
    private final RuleReader reader = new RuleReader();
    private final Planner planner = new Planner();
    private final Swarm row = new Swarm();
    private final int[] dangers = new int[MOST_DAYS];

    public FuelTurns() {
        for (int s = 0; s < SHEETS; s++) {
            sheets[s] = new Sheet();
        }
    }

    // ---- the thing

    public int plan(int what, int v) {
        if (isOutside(what, PRICE, FUEL) || isOutside(v, PLAN_LEAST[what], PLAN_MOST[what])) {
            return finding(BEYOND);
        }
        int before = now.plan[what];
        now.plan[what] = v;
        return before;
    }

    public int move(int steps) {
        if (isNoMove(steps)) {
            return finding(BEYOND);
        }
        if (!now.canShift(steps)) {
            return finding(STATE);
        }
        now.shift(steps);
        return now.height;
    }

    public int may(int steps) {
        if (isNoMove(steps)) {
            return finding(BEYOND);
        }
        return now.canShift(steps) ? 1 : 0;
    }

    public int days(int n) {
        if (isOutside(n, 1, MOST_DAYS)) {
            return finding(BEYOND);
        }
        if (now.today + n > LAST_DAY) {
            return finding(STATE);
        }
        for (int i = 0; i < n; i++) {
            now.endDay();
        }
        return now.today;
    }

    public int runs(int n) {
        if (isOutside(n, 1, MOST_DAYS)) {
            return finding(BEYOND);
        }
        if (now.today + n > LAST_DAY) {
            return finding(STATE);
        }
        for (int i = 0; i < n; i++) {
            now.shift(now.moveBy(reader));
            now.endDay();
        }
        return now.today;
    }

    public long thing(int what) {
        switch (what) {
            case 0: return now.today;
            case 1: return now.height;
            case 2: return now.plan[FUEL];
            case 3: return now.score;
            case 4: return now.risk;
            default: return finding(BEYOND);
        }
    }

    // ---- warnings

    public int warn(int kind, int of, int chance) {
        int day = of / 10000;
        int at = of / 100 % 100 - TOP;
        int width = of % 100;
        if (isOutside(kind, Warning.PLAIN, Warning.GHOST) || of < 0 || isNoHeight(at)
                || isOutside(width, 0, Warning.MOST_WIDTH) || isOutside(day, now.today + 1, LAST_DAY)
                || isOutside(chance, 0, MILLION)) {
            return finding(BEYOND);
        }
        if (now.warned >= MOST_WARNINGS) {
            return finding(FULL);
        }
        now.warnings[now.warned].begin(kind, day, at, width, chance);
        now.warned++;
        return now.warned - 1;
    }

    public int of(int warning, int what) {
        if (isNoWarning(warning)) {
            return finding(BEYOND);
        }
        Warning w = now.warnings[warning];
        switch (what) {
            case 0: return w.kind;
            case 1: return w.day;
            case 2: return w.at;
            case 3: return w.width;
            case 4: return w.chance;
            case 5: return w.looks;
            case 6: return now.isOpen(w) ? 1 : 0;
            default: return finding(BEYOND);
        }
    }

    public int as(int warning, int kind) {
        if (isNoWarning(warning) || isOutside(kind, Warning.PLAIN, Warning.GHOST)) {
            return finding(BEYOND);
        }
        Warning w = now.warnings[warning];
        return w.isOneOf(kind) ? w.chance : finding(KIND);
    }

    public int struck(int warning, int height) {
        if (isNoWarning(warning) || isNoHeight(height)) {
            return finding(BEYOND);
        }
        return now.warnings[warning].strikeAt(height);
    }

    public int look(int warning, int sureness, boolean real) {
        if (isNoWarning(warning) || isNoSureness(sureness)) {
            return finding(BEYOND);
        }
        Warning w = now.warnings[warning];
        int chance = w.chanceBehind(sureness, real);
        if (!now.isOpen(w) || chance == Warning.CANT_BE) {
            return finding(STATE);
        }
        w.chance = chance;
        w.looks++;
        return chance;
    }

    public int think(int warning, int sureness, boolean real) {
        if (isNoWarning(warning) || isNoSureness(sureness)) {
            return finding(BEYOND);
        }
        Warning w = now.warnings[warning];
        int chance = w.chanceBehind(sureness, real);
        if (!now.isOpen(w) || chance == Warning.CANT_BE) {
            return finding(STATE);
        }
        return chance;
    }

    public int danger(int day, int height) {
        if (isOutside(day, 0, LAST_DAY) || isNoHeight(height)) {
            return finding(BEYOND);
        }
        return now.dangerOn(day, height);
    }

    public int safest(int day) {
        if (isOutside(day, 0, LAST_DAY)) {
            return finding(BEYOND);
        }
        int found = now.height;
        int least = now.dangerOn(day, found);
        // From near to far, the lower one ahead: only less DANGER is worth going further.
        for (int far = 1; far < HEIGHTS; far++) {
            for (int side = -1; side <= 1; side += 2) {
                int height = now.height + side * far;
                if (!isNoHeight(height) && now.dangerOn(day, height) < least) {
                    found = height;
                    least = now.dangerOn(day, height);
                }
            }
        }
        return found;
    }

    public int open() {
        int set = 0;
        for (int i = 0; i < now.warned; i++) {
            if (now.isOpen(now.warnings[i])) {
                set |= 1 << i;
            }
        }
        return set;
    }

    // ---- the rule

    public int feed(int bytes, int n) {
        if (isOutside(n, 1, 4)) {
            return finding(BEYOND);
        }
        if (tapeLength + n > MOST_BYTES) {
            return finding(FULL);
        }
        for (int i = n - 1; i >= 0; i--) {
            tape[tapeLength] = (byte) (bytes >> 8 * i);
            tapeLength++;
        }
        return tapeLength;
    }

    public int wipe() {
        int before = tapeLength;
        tapeLength = 0;
        return before;
    }

    public int rule() {
        int fault = reader.faultOf(tape, tapeLength);
        if (fault != RuleReader.NO_FAULT) {
            return -1 - fault;
        }
        System.arraycopy(tape, 0, now.text, 0, tapeLength);
        now.textLength = tapeLength;
        tapeLength = 0;
        return 0;
    }

    public int drift() {
        int before = now.hasRule() ? 1 : 0;
        now.textLength = 0;
        return before;
    }

    public int says(int what) {
        switch (what) {
            case 0: return reader.told(now);
            case 1: return now.moveBy(reader);
            default: return finding(BEYOND);
        }
    }

    // ---- what is best

    public long best(int n, int what) {
        if (isOutside(n, 1, MOST_AHEAD) || isOutside(what, 0, 3)) {
            return finding(BEYOND);
        }
        planner.make(now, n);
        switch (what) {
            case 0: return planner.worth;
            case 1: return planner.steps * now.plan[PRICE];
            case 2: return planner.moving;
            default: return planner.moves[0];
        }
    }

    public int turn(int n, int i) {
        if (isOutside(n, 1, MOST_AHEAD) || isOutside(i, 0, n - 1)) {
            return finding(BEYOND);
        }
        planner.make(now, n);
        return planner.moves[i];
    }

    public long rest(int n) {
        if (isOutside(n, 1, MOST_AHEAD)) {
            return finding(BEYOND);
        }
        long worth = 0;
        for (int ahead = 1; ahead <= n; ahead++) {
            worth += now.worthOf(now.today + ahead, now.height);
        }
        return worth;
    }

    public int home(int danger, int more) {
        if (isOutside(danger, 0, MILLION) || isOutside(more, 0, MOST_CALM)) {
            return finding(BEYOND);
        }
        if (now.height == 0) {
            return finding(STATE);
        }
        int ahead = now.canShift(-now.height) ? firstCalm(danger, more) : 0;
        return ahead == 0 ? finding(NONE) : ahead;
    }

    public long know(int warning, int sureness, int n) {
        if (isNoWarning(warning) || isNoSureness(sureness) || isOutside(n, 1, MOST_AHEAD)) {
            return finding(BEYOND);
        }
        Warning w = now.warnings[warning];
        if (!now.isOpen(w)) {
            return finding(STATE);
        }
        long without = planner.make(now, n);
        trial.become(now);
        trial.warnings[warning].chance = w.chanceIfItCanBe(sureness, true);
        long ifReal = planner.make(trial, n);
        trial.warnings[warning].chance = w.chanceIfItCanBe(sureness, false);
        long ifNot = planner.make(trial, n);
        long m = w.chanceToTell(sureness);
        return (ifReal * m + ifNot * (MILLION - m)) / MILLION - without;
    }

    public int life(int lots, int n) {
        if (isOutside(n, 1, MOST_DAYS)) {
            return finding(BEYOND);
        }
        foresee(n);
        int day = dayOfStrike(lots, n);
        return day == 0 ? n : day;
    }

    public int lives(int l, int many, int n) {
        if (isOutside(many, 1, MOST_LIVES) || isOutside(n, 1, MOST_DAYS)) {
            return finding(BEYOND);
        }
        foresee(n);
        int lasting = 0;
        for (int i = 0; i < many; i++) {
            if (dayOfStrike(l + i, n) == 0) {
                lasting++;
            }
        }
        return lasting;
    }

    // ---- two, a swarm

    public int rests(int s) {
        int found = findingOfPair(s);
        if (found != 0) {
            return finding(found);
        }
        return restsOf(sheets[s].numbers);
    }

    public int both(int s, int what) {
        int found = isOutside(what, 0, 1) ? BEYOND : findingOfPair(s);
        if (found != 0) {
            return finding(found);
        }
        long[] pair = sheets[s].numbers;
        int most = mostTogether(pair, 15);
        if (what == 0) {
            return most;
        }
        int set = restsOf(pair);
        return set == 0 ? finding(NONE) : most - mostTogether(pair, set);
    }

    public int swarm(int s, int gap, int most, int what) {
        if (isNoSheet(s) || isOutside(gap, 0, MOST_GAP) || isOutside(most, 0, MOST_ROW_STEPS)
                || isOutside(what, 0, 1 + MOST_IN_ROW)) {
            return finding(BEYOND);
        }
        int found = findingOfRow(sheets[s]);
        if (found != 0) {
            return finding(found);
        }
        row.load(sheets[s], gap, most);
        if (!row.canBe() || what - 2 >= sheets[s].size) {
            return finding(NONE);
        }
        switch (what) {
            case 0: return row.moving;
            case 1: return row.steps;
            default: return row.moves[what - 2];
        }
    }

    // ---- sheets

    public int sheet(int s, int bits, int n) {
        if (isNoSheet(s) || bits != 0 && bits != 8 && bits != 16 && bits != 64) {
            return finding(BEYOND);
        }
        if (n < 0) {
            return finding(SIZE);
        }
        if (n > MOST_NUMBERS) {
            return finding(BEYOND);
        }
        sheets[s].begin(bits, n);
        return sheets[s].size;
    }

    public long write(int s, int i, long v) {
        int found = findingOfSheet(s);
        if (found == 0 && isOutside(i, 0, sheets[s].size - 1)) {
            found = BEYOND;
        }
        if (found != 0) {
            return finding(found);
        }
        long before = sheets[s].numbers[i];
        sheets[s].put(i, v);
        return before;
    }

    public int copy(int s, int from, int t, int to, int n) {
        if (isNoSheet(s) || isNoSheet(t)) {
            return finding(BEYOND);
        }
        if (sheets[s].isMissing() || sheets[t].isMissing()) {
            return finding(MISSING);
        }
        if (sheets[s].bits != sheets[t].bits) {
            return finding(KIND);
        }
        if (!sheets[s].hasFrom(from, n) || !sheets[t].hasFrom(to, n)) {
            return finding(BEYOND);
        }
        System.arraycopy(sheets[s].numbers, from, sheets[t].numbers, to, n);
        return n;
    }

    public int turns(int s) {
        int found = findingOfSheet(s);
        if (found != 0) {
            return finding(found);
        }
        int ended = 0;
        for (int i = 0; i < sheets[s].size && now.today < LAST_DAY; i++) {
            long steps = sheets[s].numbers[i];
            if (steps >= -MOST_STEPS && steps <= MOST_STEPS && now.canShift((int) steps)) {
                now.shift((int) steps);
                now.endDay();
                ended++;
            }
        }
        return ended;
    }

    public int read(int s) {
        int found = findingOfSheet(s);
        if (found != 0) {
            return finding(found);
        }
        for (int i = 0; i < sheets[s].size; i++) {
            if (sheets[s].numbers[i] != now.dangerOn(now.today + 1 + i, now.height)) {
                return 1 + i;
            }
        }
        return 0;
    }

    // ---- images

    public int image() {
        kept.become(now);
        imageKept = true;
        return 1;
    }

    public int undo() {
        if (!imageKept) {
            return finding(NONE);
        }
        now.become(kept);
        return now.today;
    }

    public int tear() {
        int before = imageKept ? 1 : 0;
        imageKept = false;
        return before;
    }

    public int count(int what) {
        switch (what) {
            case 0: return now.warned;
            case 1: return now.openOnes();
            case 2: return now.allLooks();
            case 3: return now.hasRule() ? 1 : 0;
            case 4: return tapeLength;
            case 5: return now.nextWarned();
            default: return finding(BEYOND);
        }
    }

    public int status(int which) {
        if (isOutside(which, -1, FINDINGS - 1)) {
            return finding(BEYOND);
        }
        if (which >= 0) {
            return findings[which];
        }
        int all = 0;
        for (int i = 0; i < FINDINGS; i++) {
            all += findings[i];
        }
        return all;
    }

    // What the calls are made of.

    /** Counts a finding that is about to be answered. */
    private int finding(int which) {
        int place = BEYOND - which;
        if (place >= 0 && place < FINDINGS) {
            findings[place]++;
        }
        return which;
    }

    private static boolean isOutside(int v, int least, int most) {
        return v < least || v > most;
    }

    private static boolean isNoMove(int steps) {
        return isOutside(steps, -MOST_STEPS, MOST_STEPS);
    }

    private static boolean isNoHeight(int height) {
        return isOutside(height, -TOP, TOP);
    }

    private static boolean isNoSureness(int sureness) {
        return isOutside(sureness, 50, 100);
    }

    private static boolean isNoSheet(int s) {
        return isOutside(s, 0, SHEETS - 1);
    }

    private boolean isNoWarning(int warning) {
        return isOutside(warning, 0, now.warned - 1);
    }

    /** 0 if there is such a sheet with numbers, else the finding. */
    private int findingOfSheet(int s) {
        if (isNoSheet(s)) {
            return BEYOND;
        }
        return sheets[s].isMissing() ? MISSING : 0;
    }

    private int findingOfPair(int s) {
        int found = findingOfSheet(s);
        if (found != 0) {
            return found;
        }
        if (sheets[s].size != PAIR_NUMBERS) {
            return SIZE;
        }
        return sheets[s].isWithin(MILLION) ? 0 : KIND;
    }

    private static int findingOfRow(Sheet sheet) {
        if (sheet.isMissing()) {
            return MISSING;
        }
        if (isOutside(sheet.size, 2, MOST_IN_ROW)) {
            return SIZE;
        }
        return sheet.isWithin(ROW_HEIGHT) ? 0 : KIND;
    }

    /** The first DAY ahead from which on HEIGHT 0 has no more than that DANGER; 0 if there is none. */
    private int firstCalm(int most, int more) {
        int first = 1;
        for (int ahead = 1; ahead <= MOST_TILL_HOME + more && first <= MOST_TILL_HOME; ahead++) {
            if (now.dangerOn(now.today + ahead, 0) > most) {
                first = ahead + 1;
            } else if (ahead - first == more) {
                return first;
            }
        }
        return 0;
    }

    /** DANGER of the next n DAYS if it moves BY THE RULE: LOTS change none of its MOVES. */
    private void foresee(int n) {
        trial.become(now);
        for (int i = 0; i < n; i++) {
            trial.shift(trial.moveBy(reader));
            trial.endDay();
            dangers[i] = trial.dangerOn(trial.today, trial.height);
        }
    }

    /** Which of the n foreseen DAYS (from 1 on) it is STRUCK on by these LOTS; 0 if on none. */
    private int dayOfStrike(int lots, int n) {
        int lot = lots;
        for (int i = 0; i < n; i++) {
            lot = lot * 1103515245 + 12345;
            if ((lot >>> 16) % 10000 < dangers[i] / 100) {
                return i + 1;
            }
        }
        return 0;
    }

    /**
     * The RESTS of a PAIR. Its four are told by bits, too: 1 the first one goes, 2 the second one
     * does; so that with one bit turned that one alone does otherwise.
     */
    private static int restsOf(long[] pair) {
        int set = 0;
        for (int four = 0; four < 4; four++) {
            boolean firstStays = pair[four ^ 1] <= pair[four];
            boolean secondStays = pair[4 + (four ^ 2)] <= pair[4 + four];
            if (firstStays && secondStays) {
                set |= 1 << four;
            }
        }
        return set;
    }

    /** The most that both have together by one of the four in a set that isn't empty. */
    private static int mostTogether(long[] pair, int set) {
        long most = -2L * MILLION;
        for (int four = 0; four < 4; four++) {
            if ((set >> four & 1) == 1) {
                most = Math.max(most, pair[four] + pair[4 + four]);
            }
        }
        return (int) most;
    }

    /** That something else will be there. */
    private static final class Warning {
        static final int PLAIN = 0;
        static final int CLOSE = 1;
        static final int PACT = 2;
        static final int SWARM = 3;
        static final int OWN = 4;
        static final int GHOST = 5;
        static final int MOST_WIDTH = 9;
        static final int CANT_BE = -1;
        private static final int[] ABOVE = {PLAIN, PLAIN, PLAIN, PLAIN, PACT, CLOSE};

        int kind = PLAIN;
        int day = 0;
        int at = 0;
        int width = 0;
        int chance = 0;
        int looks = 0;

        void begin(int newKind, int newDay, int newAt, int newWidth, int newChance) {
            kind = newKind;
            day = newDay;
            at = newAt;
            width = newWidth;
            chance = newChance;
            looks = 0;
        }

        void become(Warning other) {
            begin(other.kind, other.day, other.at, other.width, other.chance);
            looks = other.looks;
        }

        /** No kind is more than two under PLAIN, so one step up tells all but PLAIN. */
        boolean isOneOf(int asked) {
            return asked == PLAIN || asked == kind || asked == ABOVE[kind];
        }

        int strikeAt(int height) {
            int d = height > at ? height - at : at - height;
            boolean isPact = kind == PACT || kind == OWN;
            int far = kind == SWARM ? d / 2 : isPact && d > 0 ? d + 1 : d;
            int reach = width + 1;
            int plain = reach < 1 || far >= reach ? 0 : chance * (reach - far) / reach;
            int more = plain + plain / 2;
            int close = more > MILLION ? MILLION : more;
            switch (kind) {
                case CLOSE: return close;
                case OWN: return plain / 2;
                case GHOST: return close / 4;
                default: return plain;
            }
        }

        /** CHANCE behind a LOOK that tells whether it is real, or CANT_BE. */
        int chanceBehind(int sureness, boolean real) {
            int right = real ? sureness : 100 - sureness;
            long is = (long) chance * right;
            long isNot = (long) (MILLION - chance) * (100 - right);
            long together = is + isNot;
            return together == 0 ? CANT_BE : (int) (is * MILLION / together);
        }

        /** CHANCE behind a LOOK; as it is if the LOOK can't be. */
        int chanceIfItCanBe(int sureness, boolean real) {
            int behind = chanceBehind(sureness, real);
            return behind == CANT_BE ? chance : behind;
        }

        /** In millionths: that a LOOK tells 1. */
        int chanceToTell(int sureness) {
            long is = (long) chance * sureness;
            long isNot = (long) (MILLION - chance) * (100 - sureness);
            return (int) ((is + isNot) / 100);
        }
    }

    /** All that sections 1 to 3 of the document tell, without THE TAPE. */
    private static final class World {
        int today = 0;
        int height = 0;
        long score = 0;
        long risk = 0;
        final int[] plan = {1, 100, 10, 1000000, 0, 9};
        final Warning[] warnings = new Warning[MOST_WARNINGS];
        int warned = 0;
        final byte[] text = new byte[MOST_BYTES];
        int textLength = 0;

        World() {
            for (int i = 0; i < MOST_WARNINGS; i++) {
                warnings[i] = new Warning();
            }
        }

        void become(World other) {
            today = other.today;
            height = other.height;
            score = other.score;
            risk = other.risk;
            System.arraycopy(other.plan, 0, plan, 0, plan.length);
            warned = other.warned;
            for (int i = 0; i < warned; i++) {
                warnings[i].become(other.warnings[i]);
            }
            textLength = other.textLength;
            System.arraycopy(other.text, 0, text, 0, textLength);
        }

        boolean hasRule() {
            return textLength > 0;
        }

        boolean isOpen(Warning warning) {
            return warning.day > today;
        }

        int openOnes() {
            int n = 0;
            for (int i = 0; i < warned; i++) {
                if (isOpen(warnings[i])) {
                    n++;
                }
            }
            return n;
        }

        int allLooks() {
            int n = 0;
            for (int i = 0; i < warned; i++) {
                n += warnings[i].looks;
            }
            return n;
        }

        /** The next DAY for which there is an OPEN WARNING, or -1. */
        int nextWarned() {
            int next = -1;
            for (int i = 0; i < warned; i++) {
                int day = warnings[i].day;
                if (day > today && (next < 0 || day < next)) {
                    next = day;
                }
            }
            return next;
        }

        int dangerOn(int day, int atHeight) {
            int together = 0;
            for (int i = 0; i < warned; i++) {
                if (warnings[i].day == day) {
                    together += warnings[i].strikeAt(atHeight);
                }
            }
            return Math.min(together, MILLION);
        }

        int useAt(int atHeight) {
            return Math.max(plan[USE] - plan[OFF] * Math.abs(atHeight), 0);
        }

        long worthOf(int day, int atHeight) {
            return useAt(atHeight) - (long) plan[HARM] * dangerOn(day, atHeight) / MILLION;
        }

        boolean canShift(int steps) {
            if (steps == 0) {
                return true;
            }
            int left = plan[FUEL] - plan[PRICE] * Math.abs(steps);
            return Math.abs(height + steps) <= TOP && left >= plan[KEEP];
        }

        /** A MOVE that CAN be. */
        void shift(int steps) {
            height += steps;
            plan[FUEL] -= plan[PRICE] * Math.abs(steps);
        }

        /** How many steps FUEL is there for. */
        int stepsLeft() {
            int spare = plan[FUEL] - plan[KEEP];
            return plan[PRICE] < 1 || spare < 0 ? 0 : spare / plan[PRICE];
        }

        void endDay() {
            today++;
            score += useAt(height);
            risk += dangerOn(today, height);
        }

        /** The MOVE BY THE RULE. */
        int moveBy(RuleReader reader) {
            int told = Math.max(-MOST_STEPS, Math.min(MOST_STEPS, reader.told(this)));
            int side = told < 0 ? -1 : 1;
            int steps = told * side;
            while (steps > 0 && !canShift(side * steps)) {
                steps--;
            }
            return side * steps;
        }
    }

    /**
     * Reads a TEXT of a RULE byte by byte, and works out on the way what it tells. As few of ( and -
     * are open at once, what stands around them is kept in rows, and no method calls itself.
     */
    private static final class RuleReader {
        static final int NO_FAULT = -1;
        private static final int MOST_OPEN = 5;
        private static final int MOST_DIGITS = 7;

        /** Where in R an S stands: FIRST is the only one that may end it. */
        private static final int FIRST = 0;
        private static final int RIGHT_OF_T = 1;
        private static final int LEFT_OF_LATER_T = 2;
        private static final int BEHIND_C = 3;
        private static final int NOWHERE = -1;

        private static final int NAMES = 6;
        private static final int NO_NAME = -1;
        /** What stands in signsAround for a -, which has no sum around it. */
        private static final int MINUS = 0;

        private final int[] facts = new int[NAMES];
        private int fault = NO_FAULT;
        private int place = FIRST;
        private boolean wantsPart = true;
        private int number = 0;
        private int digits = 0;
        private int sum = 0;
        private int partSign = 1;
        private final int[] sumsAround = new int[MOST_OPEN];
        private final int[] signsAround = new int[MOST_OPEN];
        private int open = 0;
        private int left = 0;
        private int comparison = '=';
        private boolean holds = true;
        private boolean chosen = false;
        private int value = 0;

        /** What THE RULE tells; 0 without one. */
        int told(World world) {
            if (!world.hasRule()) {
                return 0;
            }
            learn(world);
            readText(world.text, world.textLength);
            return chosen ? value : sum;
        }

        int faultOf(byte[] bytes, int length) {
            readText(bytes, length);
            return fault;
        }

        /** What the NAMES mean now, each at the place that nameOf answers for it. */
        private void learn(World world) {
            int next = world.nextWarned();
            facts[0] = world.dangerOn(world.today + 1, world.height);
            facts[1] = next < 0 ? LAST_DAY : next - world.today;
            facts[2] = world.plan[FUEL];
            facts[3] = world.height;
            facts[4] = world.openOnes();
            facts[5] = world.today;
        }

        private static int nameOf(int sign) {
            switch (sign) {
                case 'c': return 0;
                case 'd': return 1;
                case 'f': return 2;
                case 'h': return 3;
                case 'n': return 4;
                case 't': return 5;
                default: return NO_NAME;
            }
        }

        private void readText(byte[] bytes, int length) {
            fault = NO_FAULT;
            open = 0;
            digits = 0;
            holds = true;
            chosen = false;
            beginSum(FIRST);
            for (int at = 0; at < length && fault == NO_FAULT; at++) {
                int sign = bytes[at];
                boolean isDigit = sign >= '0' && sign <= '9';
                if (!isDigit) {
                    endNumber();
                }
                boolean taken = isDigit ? takesDigit(sign - '0')
                    : wantsPart ? takesInPart(sign)
                    : takesBehindPart(sign) || open == 0 && takesBehindSum(sign);
                if (!taken) {
                    fault = at;
                }
            }
            endNumber();
            boolean mayEnd = !wantsPart && open == 0 && place == FIRST;
            if (fault == NO_FAULT && !mayEnd) {
                fault = length;
            }
        }

        private void beginSum(int newPlace) {
            place = newPlace;
            sum = 0;
            partSign = 1;
            wantsPart = true;
        }

        /** A number is a P only when it ends, so that more digits may come. */
        private boolean takesDigit(int digit) {
            if (!wantsPart || digits == MOST_DIGITS) {
                return false;
            }
            number = digits == 0 ? digit : 10 * number + digit;
            digits++;
            return true;
        }

        private void endNumber() {
            if (digits > 0) {
                digits = 0;
                endPart(number);
            }
        }

        /** A byte where a P begins. */
        private boolean takesInPart(int sign) {
            int name = nameOf(sign);
            if (name != NO_NAME) {
                endPart(facts[name]);
                return true;
            }
            if (sign != '-' && sign != '(' || open >= MOST_OPEN) {
                return false;
            }
            sumsAround[open] = sum;
            signsAround[open] = sign == '-' ? MINUS : partSign;
            open++;
            if (sign == '(') {
                sum = 0;
                partSign = 1;
            }
            return true;
        }

        /** With a P each - ends that stood right ahead of it. */
        private void endPart(int told) {
            int part = told;
            while (open > 0 && signsAround[open - 1] == MINUS) {
                part = -part;
                open--;
            }
            sum += partSign * part;
            wantsPart = false;
        }

        /** A byte behind a P, so that only ( can be open: + and - go on, and ) ends what is open. */
        private boolean takesBehindPart(int sign) {
            if (sign == '+' || sign == '-') {
                partSign = sign == '+' ? 1 : -1;
                wantsPart = true;
                return true;
            }
            if (sign != ')' || open == 0) {
                return false;
            }
            open--;
            int part = sum;
            sum = sumsAround[open];
            partSign = signsAround[open];
            endPart(part);
            return true;
        }

        /**
         * A byte behind an S with nothing open. All of a TEXT is read, for its FAULT, though the
         * first C that holds tells the value.
         */
        private boolean takesBehindSum(int sign) {
            int next = placeBehind(sign);
            if (next == NOWHERE) {
                return false;
            }
            switch (place) {
                case RIGHT_OF_T:
                    holds = holds && comparesRight();
                    break;
                case BEHIND_C:
                    value = holds && !chosen ? sum : value;
                    chosen = chosen || holds;
                    holds = true;
                    break;
                default:
                    left = sum;
                    comparison = sign;
            }
            beginSum(next);
            return true;
        }

        private int placeBehind(int sign) {
            switch (sign) {
                case '<':
                case '=':
                case '>':
                    return place == FIRST || place == LEFT_OF_LATER_T ? RIGHT_OF_T : NOWHERE;
                case '&':
                    return place == RIGHT_OF_T ? LEFT_OF_LATER_T : NOWHERE;
                case '?':
                    return place == RIGHT_OF_T ? BEHIND_C : NOWHERE;
                case ':':
                    return place == BEHIND_C ? FIRST : NOWHERE;
                default:
                    return NOWHERE;
            }
        }

        private boolean comparesRight() {
            switch (comparison) {
                case '<': return left < sum;
                case '>': return left > sum;
                default: return left == sum;
            }
        }
    }

    /** The BEST, from the last DAY back. */
    private static final class Planner {
        /** More than all steps that there can be FUEL for: worth comes first, then the fewest steps. */
        private static final int SCALE = 64;
        private static final int BUDGETS = MOST_FUEL + 1;

        /** What a DAY is worth at a HEIGHT. */
        private final long[] gains = new long[MOST_AHEAD * HEIGHTS];
        /** By DAY, HEIGHT and steps left: worth from then on times SCALE, less the steps taken. */
        private final long[] values = new long[MOST_AHEAD * HEIGHTS * BUDGETS];
        private int days = 0;
        private int budget = 0;
        final int[] moves = new int[MOST_AHEAD];
        long worth = 0;
        int steps = 0;
        int moving = 0;

        /** Answers what the BEST is worth; the rest of it stands in the fields. */
        long make(World world, int n) {
            days = Math.min(n, MOST_AHEAD);
            budget = Math.min(world.stepsLeft(), MOST_FUEL);
            for (int day = days - 1; day >= 0; day--) {
                stay(world, day);
                spread(day);
            }
            follow(world.height + TOP);
            return worth;
        }

        /** Values of a DAY that ends at a HEIGHT (told by its place, 0 the lowest). */
        private void stay(World world, int day) {
            for (int place = 0; place < HEIGHTS; place++) {
                long gain = world.worthOf(world.today + 1 + day, place - TOP);
                gains[day * HEIGHTS + place] = gain;
                int here = cell(day, place, 0);
                int next = cell(day + 1, place, 0);
                for (int left = 0; left <= budget; left++) {
                    long later = day < days - 1 ? values[next + left] : 0;
                    values[here + left] = gain * SCALE + later;
                }
            }
        }

        /**
         * Values with a MOVE ahead of that: as it costs the same for each step, it goes from place
         * to place next to it, all upwards first, then all downwards; there and back never is better.
         */
        private void spread(int day) {
            for (int place = HEIGHTS - 2; place >= 0; place--) {
                step(day, place, place + 1);
            }
            for (int place = 1; place < HEIGHTS; place++) {
                step(day, place, place - 1);
            }
        }

        private void step(int day, int from, int to) {
            int here = cell(day, from, 0);
            int there = cell(day, to, 0);
            for (int left = 1; left <= budget; left++) {
                long moved = values[there + left - 1] - 1;
                if (moved > values[here + left]) {
                    values[here + left] = moved;
                }
            }
        }

        private static int cell(int day, int place, int left) {
            return (day * HEIGHTS + place) * BUDGETS + left;
        }

        private long valueFrom(int day, int place, int left) {
            return day < days ? values[cell(day, place, left)] : 0;
        }

        private void follow(int start) {
            int place = start;
            int left = budget;
            worth = 0;
            moving = 0;
            for (int day = 0; day < days; day++) {
                int move = firstMove(day, place, left);
                moves[day] = move;
                place += move;
                left -= Math.abs(move);
                worth += gains[day * HEIGHTS + place];
                moving += move == 0 ? 0 : 1;
            }
            steps = budget - left;
        }

        /** Of the MOVES that keep the value, that with the fewest steps, downwards ahead. */
        private int firstMove(int day, int place, int left) {
            for (int far = 0; far <= left && far < HEIGHTS; far++) {
                if (keepsValue(day, place, left, -far)) {
                    return -far;
                }
                if (keepsValue(day, place, left, far)) {
                    return far;
                }
            }
            return 0;
        }

        private boolean keepsValue(int day, int place, int left, int move) {
            int to = place + move;
            if (to < 0 || to >= HEIGHTS) {
                return false;
            }
            int far = Math.abs(move);
            long value = gains[day * HEIGHTS + to] * SCALE + valueFrom(day + 1, to, left - far) - far;
            return value == values[cell(day, place, left)];
        }
    }

    /** A ROW, and how it is put a GAP apart, from the last one back. */
    private static final class Swarm {
        /** More than all steps together: the fewest that move come first. */
        private static final int MOVER = 1000;
        private static final int CANT = 1000000;
        private static final int WIDTH = 2 * MOST_ROW_STEPS + 1;

        private final int[] heights = new int[MOST_IN_ROW];
        /** By number and MOVE (its place, 0 the lowest): the least cost from that number on. */
        private final int[] costs = new int[MOST_IN_ROW * WIDTH];
        /** Of the number last looked at: the least cost with a MOVE of a place or lower, or higher. */
        private final int[] downFrom = new int[WIDTH];
        private final int[] upFrom = new int[WIDTH];
        final int[] moves = new int[MOST_IN_ROW];
        private int size = 0;
        private int gap = 0;
        private int most = 0;
        private int cost = 0;
        int moving = 0;
        int steps = 0;

        void load(Sheet sheet, int newGap, int newMost) {
            size = Math.min(sheet.size, MOST_IN_ROW);
            gap = newGap;
            most = Math.min(newMost, MOST_ROW_STEPS);
            for (int i = 0; i < size; i++) {
                heights[i] = (int) sheet.numbers[i];
            }
            for (int i = size - 1; i >= 0; i--) {
                weigh(i);
                gather(i);
            }
            cost = upFrom[0];
            if (canBe()) {
                follow();
            }
        }

        boolean canBe() {
            return cost < CANT;
        }

        private void weigh(int i) {
            for (int move = -most; move <= most; move++) {
                int behind = i == size - 1 ? 0 : costBehind(i, move);
                int together = behind + costOf(move);
                costs[i * WIDTH + most + move] = Math.min(together, CANT);
            }
        }

        private static int costOf(int move) {
            return move == 0 ? 0 : MOVER + Math.abs(move);
        }

        /** The least cost of those behind number i, which moves so. */
        private int costBehind(int i, int move) {
            int apart = heights[i] + move - heights[i + 1] + most;
            int below = Math.min(apart - gap, 2 * most);
            int above = Math.max(apart + gap, 0);
            int down = below < 0 ? CANT : downFrom[below];
            int up = above > 2 * most ? CANT : upFrom[above];
            return Math.min(down, up);
        }

        private void gather(int i) {
            int least = CANT;
            for (int place = 0; place <= 2 * most; place++) {
                least = Math.min(least, costs[i * WIDTH + place]);
                downFrom[place] = least;
            }
            least = CANT;
            for (int place = 2 * most; place >= 0; place--) {
                least = Math.min(least, costs[i * WIDTH + place]);
                upFrom[place] = least;
            }
        }

        private void follow() {
            int left = cost;
            moving = 0;
            steps = 0;
            for (int i = 0; i < size; i++) {
                int move = firstMove(i, left);
                moves[i] = move;
                left -= costOf(move);
                moving += move == 0 ? 0 : 1;
                steps += Math.abs(move);
            }
        }

        /** Of the MOVES that cost no more: none, then fewer steps, downwards ahead. */
        private int firstMove(int i, int left) {
            for (int far = 0; far <= most; far++) {
                if (fits(i, -far, left)) {
                    return -far;
                }
                if (fits(i, far, left)) {
                    return far;
                }
            }
            return 0;
        }

        private boolean fits(int i, int move, int left) {
            if (costs[i * WIDTH + most + move] != left) {
                return false;
            }
            return i == 0 || Math.abs(heights[i] + move - heights[i - 1] - moves[i - 1]) >= gap;
        }
    }

    /** A row of numbers of 8, 16 or 64 bits, or (0 bits) MISSING. */
    private static final class Sheet {
        int bits = 0;
        int size = 0;
        final long[] numbers = new long[MOST_NUMBERS];

        boolean isMissing() {
            return bits == 0;
        }

        void begin(int newBits, int n) {
            bits = newBits;
            size = isMissing() ? 0 : n;
            for (int i = 0; i < MOST_NUMBERS; i++) {
                numbers[i] = 0;
            }
        }

        void put(int i, long v) {
            switch (bits) {
                case 8:
                    numbers[i] = (byte) v;
                    break;
                case 16:
                    numbers[i] = (short) v;
                    break;
                default:
                    numbers[i] = v;
            }
        }

        boolean hasFrom(int from, int n) {
            return from >= 0 && n >= 0 && n <= size && from <= size - n;
        }

        boolean isWithin(int most) {
            for (int i = 0; i < size; i++) {
                if (numbers[i] < -most || numbers[i] > most) {
                    return false;
                }
            }
            return true;
        }
    }
}
