/** Programs of few PLACES, and why a PLACE of one has its value: see DOC.md for every promise. */
public final class SliceWhy {
    public static final int BAD = -1, FULL = -2, STATE = -3, NONE = -4;

    private static final int MOST_PLACES = 24, MOST_STEPS = 100, MOST_TESTS = 3;
    private static final int REGISTERS = 8, INPUTS = 4, ROWS = 4, ITEMS = 8, NAMES = 4, GLOBALS = 4;
    private static final int ALL_ROWS = 15;
    private static final int ROW_CHOOSER = 3, ALL_BUT_SIGN = 0x7fffffff;

    private static final int PASS = 0, NUMBER = 1, INPUT = 2, ADD = 3, LESS = 4, TIMES = 5, SHARE = 6;
    private static final int PUT = 7, GET = 8, USE = 9, SET = 10, IF = 11, GO = 12, STOP = 13;
    private static final int KINDS = 14;

    // How many values a, b, c of each KIND may have, from 0 on; 0: any value is taken.
    private static final int[] A_LIMITS = {0, 8, 8, 8, 8, 8, 8, 8, 8, 8, 8, 8, 0, 0};
    private static final int[] B_LIMITS = {0, 0, 4, 8, 8, 8, 8, 8, 8, 4, 4, 25, 25, 0};
    private static final int[] C_LIMITS = {0, 0, 0, 8, 8, 8, 8, 4, 4, 0, 0, 0, 0, 0};

    private static final int CAME_TO_END = 0, FAILED = 1, SPENT = 2;
    private static final int TOLD_BY_FAILURE = 1000000007;

    private static final int BY_REGISTER = 1, BY_NAMES = 2, BY_GLOBAL = 3, BY_CONTROL = 4;

    private static final int BACK = 0, THIN = 1, FORWARD = 2, THINLY = 3;

    // The END has the bit behind those of all PLACES that can be, however many there are now.
    private static final int END = MOST_PLACES;

    private final Program program = new Program();
    private final Reasons reasons = new Reasons();
    private boolean reasonsAreOld = true;
    private final int[] inputs = new int[INPUTS];
    private final int[][] tests = new int[MOST_TESTS][INPUTS];
    private int testCount;
    private final Machine latest = new Machine();
    private int runCount;
    // Apart from the latest run(), which same() and least() must not touch.
    private final Machine[] wholes = new Machine[MOST_TESTS];
    private final Machine part = new Machine();
    private final int[] wayPlaces = new int[MOST_PLACES];
    private int wayLength;

    public SliceWhy() {
        for (int t = 0; t < MOST_TESTS; t++) {
            wholes[t] = new Machine();
        }
    }

    public int line(int kind, int a, int b, int c) {
        if (!Program.allows(kind, a, b, c)) {
            return BAD;
        }
        if (program.size >= MOST_PLACES) {
            return FULL;
        }
        int p = program.size;
        program.size++;
        program.write(p, kind, a, b, c);
        reasonsAreOld = true;
        return p;
    }

    public int change(int p, int kind, int a, int b, int c) {
        if (!program.has(p) || !Program.allows(kind, a, b, c)) {
            return BAD;
        }
        int before = program.kinds[p];
        program.write(p, kind, a, b, c);
        reasonsAreOld = true;
        return before;
    }

    public int drop() {
        if (program.size == 0) {
            return STATE;
        }
        program.size--;
        reasonsAreOld = true;
        return program.size;
    }

    public int start(int g, int n, boolean fails) {
        if (g < 0 || g >= GLOBALS) {
            return BAD;
        }
        program.starts[g] = n;
        program.failing[g] = fails;
        reasonsAreOld = true;
        return 1;
    }

    public int points(int name, int rows) {
        if (name < 0 || name >= NAMES || rows < 1 || rows > ALL_ROWS) {
            return BAD;
        }
        int before = program.mayBe[name];
        program.mayBe[name] = rows;
        reasonsAreOld = true;
        return before;
    }

    public int input(int k, int v) {
        if (k < 0 || k >= INPUTS) {
            return BAD;
        }
        inputs[k] = v;
        return 1;
    }

    public int run(int of, int w) {
        if (!program.has(w) || of != NONE && !program.has(of)) {
            return BAD;
        }
        runCount++;
        int set = of == NONE ? program.all() : reasonsNow().backOf(of);
        return latest.perform(program, inputs, set, w);
    }

    public int seen() {
        return latest.toldCount;
    }

    public int saw(int k) {
        return k >= 0 && k < latest.toldCount ? latest.told[k] : 0;
    }

    public int left(int what) {
        if (what == 0) {
            return latest.steps;
        }
        if (what == 1) {
            return latest.failedAt;
        }
        return what >= 2 && what < 2 + REGISTERS ? latest.registers[what - 2] : 0;
    }

    public int slice(int p, int way) {
        if (!program.has(p)) {
            return BAD;
        }
        switch (way) {
            case BACK:
                return reasonsNow().backOf(p);
            case THIN:
                return reasonsNow().thinOf(p);
            case FORWARD:
                return reasonsNow().forwardOf(p);
            case THINLY:
                return reasonsNow().thinlyOf(p);
            default:
                return BAD;
        }
    }

    public int follows(int p) {
        return program.has(p) ? reasonsNow().followersOf(p) : BAD;
    }

    public int causes(int p) {
        return program.has(p) ? reasonsNow().howManyCauses(p) : BAD;
    }

    public int cause(int p, int k, int what) {
        if (!program.has(p) || k < 0 || what < 0 || what > 1) {
            return BAD;
        }
        return reasonsNow().kthCause(p, k, what == 1);
    }

    public int chop(int u, int v) {
        if (!program.has(u) || !program.has(v)) {
            return BAD;
        }
        return reasonsNow().forwardOf(u) & reasonsNow().backOf(v);
    }

    public int way(int v, int u) {
        if (!program.has(v) || !program.has(u)) {
            return BAD;
        }
        if (!holds(reasonsNow().backOf(v), u)) {
            return NONE;
        }
        wayLength = reasonsNow().shortestWay(v, u, wayPlaces);
        return wayLength;
    }

    public int on(int k) {
        return k >= 0 && k < wayLength ? wayPlaces[k] : NONE;
    }

    public int same(int p) {
        if (!program.has(p)) {
            return BAD;
        }
        if (wholes[0].perform(program, inputs, program.all(), p) == SPENT) {
            return SPENT;
        }
        part.perform(program, inputs, reasonsNow().backOf(p), p);
        return part.toldLike(wholes[0]) ? 1 : 0;
    }

    public int test() {
        if (testCount >= MOST_TESTS) {
            return FULL;
        }
        System.arraycopy(inputs, 0, tests[testCount], 0, INPUTS);
        testCount++;
        return testCount - 1;
    }

    public int untest() {
        int before = testCount;
        testCount = 0;
        return before;
    }

    public int least(int p) {
        if (!program.has(p)) {
            return BAD;
        }
        if (testCount == 0 || wholeIsSpentInATest(p)) {
            return STATE;
        }
        int set = reasonsNow().backOf(p);
        boolean went = true;
        for (int round = 0; went && round < MOST_PLACES; round++) {
            int fewer = withoutNeedless(set, p);
            went = fewer != set;
            set = fewer;
        }
        return set;
    }

    public int count(int what) {
        switch (what) {
            case 0:
                return program.size;
            case 1:
                return testCount;
            case 2:
                return runCount;
            default:
                return BAD;
        }
    }

    private Reasons reasonsNow() {
        if (reasonsAreOld) {
            reasons.findAll(program);
            reasonsAreOld = false;
        }
        return reasons;
    }

    /** Runs the whole in every TEST; what p told stays in wholes, to be compared with. */
    private boolean wholeIsSpentInATest(int p) {
        boolean spent = false;
        for (int t = 0; t < testCount; t++) {
            spent |= wholes[t].perform(program, tests[t], program.all(), p) == SPENT;
        }
        return spent;
    }

    private int withoutNeedless(int set, int p) {
        int rest = set;
        for (int q = program.size - 1; q >= 0; q--) {
            if (q != p && holds(rest, q) && testsAgree(rest & ~(1 << q), p)) {
                rest &= ~(1 << q);
            }
        }
        return rest;
    }

    private boolean testsAgree(int set, int p) {
        for (int t = 0; t < testCount; t++) {
            boolean spent = part.perform(program, tests[t], set, p) == SPENT;
            if (spent || !part.toldLike(wholes[t])) {
                return false;
            }
        }
        return true;
    }

    private static boolean holds(int set, int p) {
        return (set >>> p & 1) != 0;
    }

    /** The PLACES, what GLOBALS start with and NAMES may be; its callers check what they write. */
    private static final class Program {
        private final int[] kinds = new int[MOST_PLACES];
        private final int[] as = new int[MOST_PLACES];
        private final int[] bs = new int[MOST_PLACES];
        private final int[] cs = new int[MOST_PLACES];
        private final int[] starts = new int[GLOBALS];
        private final boolean[] failing = new boolean[GLOBALS];
        private final int[] mayBe = new int[NAMES];
        private int size;

        Program() {
            for (int name = 0; name < NAMES; name++) {
                mayBe[name] = 1;
            }
        }

        static boolean allows(int kind, int a, int b, int c) {
            return kind >= 0 && kind < KINDS
                && isBelow(a, A_LIMITS[kind]) && isBelow(b, B_LIMITS[kind]) && isBelow(c, C_LIMITS[kind]);
        }

        private static boolean isBelow(int value, int limit) {
            return limit == 0 || value >= 0 && value < limit;
        }

        boolean has(int p) {
            return p >= 0 && p < size;
        }

        int all() {
            return (1 << size) - 1;
        }

        void write(int p, int kind, int a, int b, int c) {
            kinds[p] = kind;
            as[p] = a;
            bs[p] = b;
            cs[p] = c;
        }

        boolean isOfFailingGlobal(int p) {
            return (kinds[p] == USE || kinds[p] == SET) && failing[bs[p]];
        }

        private int bitOf(int to) {
            return 1 << (to < size ? to : END);
        }

        int nextsOf(int p) {
            int behind = bitOf(p + 1);
            switch (kinds[p]) {
                case IF:
                    return behind | bitOf(bs[p]);
                case GO:
                    return bitOf(bs[p]);
                case STOP:
                    return 1 << END;
                case SHARE:
                    return behind | 1 << END;
                default:
                    return isOfFailingGlobal(p) ? behind | 1 << END : behind;
            }
        }

        int widerNextsOf(int p) {
            // That behind is a NEXT of every other KIND already.
            return nextsOf(p) | bitOf(p + 1);
        }

        private static int registerBit(int x) {
            return 1 << x;
        }

        /** GLOBALS have the bits behind those of the REGISTERS. */
        private static int globalBit(int x) {
            return 1 << (REGISTERS + x);
        }

        /** The bit of the REGISTER or GLOBAL that p SETS; 0: none. */
        int setBy(int p) {
            switch (kinds[p]) {
                case NUMBER:
                case INPUT:
                case ADD:
                case LESS:
                case TIMES:
                case SHARE:
                case GET:
                case USE:
                    return registerBit(as[p]);
                case SET:
                    return globalBit(bs[p]);
                default:
                    return 0;
            }
        }

        /** Bits of the REGISTERS and GLOBALS that p READS. */
        int readBy(int p) {
            switch (kinds[p]) {
                case PUT:
                    return registerBit(as[p]) | registerBit(bs[p]);
                case GET:
                    return registerBit(bs[p]);
                case IF:
                    return registerBit(as[p]);
                default:
                    return thinlyReadBy(p);
            }
        }

        /** The same without what THIN leave out; of PUT, REGISTER b stays only where it is a. */
        int thinlyReadBy(int p) {
            switch (kinds[p]) {
                case ADD:
                case LESS:
                case TIMES:
                case SHARE:
                    return registerBit(bs[p]) | registerBit(cs[p]);
                case PUT:
                case SET:
                    return registerBit(as[p]);
                case USE:
                    return globalBit(bs[p]);
                default:
                    return 0;
            }
        }

        boolean mayShareRow(int p, int q) {
            return (mayBe[cs[p]] & mayBe[cs[q]]) != 0;
        }
    }

    /** One RUN at a time, and what it left. */
    private static final class Machine {
        private final int[] registers = new int[REGISTERS];
        private final int[] items = new int[ROWS * ITEMS];
        private final int[] globals = new int[GLOBALS];
        private final int[] rowOf = new int[NAMES];
        private final int[] told = new int[MOST_STEPS];
        private int toldCount;
        private int toldNow;
        private int steps;
        private int failedAt = NONE;

        int perform(Program program, int[] inputs, int set, int watched) {
            begin(program, inputs);
            int at = firstFrom(0, set, program.size);
            while (at < program.size && steps < MOST_STEPS) {
                steps++;
                int to = step(program, inputs, at);
                if (at == watched && toldCount < MOST_STEPS) {
                    told[toldCount] = toldNow;
                    toldCount++;
                }
                if (failedAt != NONE) {
                    return FAILED;
                }
                at = firstFrom(to, set, program.size);
            }
            return at < program.size ? SPENT : CAME_TO_END;
        }

        private void begin(Program program, int[] inputs) {
            for (int x = 0; x < REGISTERS; x++) {
                registers[x] = 0;
            }
            for (int i = 0; i < ROWS * ITEMS; i++) {
                items[i] = 0;
            }
            for (int g = 0; g < GLOBALS; g++) {
                globals[g] = program.starts[g];
            }
            for (int name = 0; name < NAMES; name++) {
                rowOf[name] = chosenRow(program.mayBe[name], inputs[ROW_CHOOSER] & ALL_BUT_SIGN);
            }
            toldCount = 0;
            steps = 0;
            failedAt = NONE;
        }

        private static int chosenRow(int rows, int choice) {
            int howMany = Integer.bitCount(rows);
            int before = howMany == 0 ? 0 : choice % howMany;
            for (int row = 0; row < ROWS; row++) {
                if (holds(rows, row)) {
                    if (before == 0) {
                        return row;
                    }
                    before--;
                }
            }
            return 0;
        }

        /** PLACES out of the set are gone by: they neither count nor tell. */
        private static int firstFrom(int place, int set, int size) {
            int at = place;
            while (at < size && !holds(set, at)) {
                at++;
            }
            return at;
        }

        private int step(Program program, int[] inputs, int p) {
            int a = program.as[p];
            int b = program.bs[p];
            if (failsAt(program, p)) {
                failedAt = p;
                toldNow = TOLD_BY_FAILURE;
                return END;
            }
            toldNow = 0;
            switch (program.kinds[p]) {
                case PASS:
                    return p + 1;
                case PUT:
                    toldNow = registers[a];
                    items[itemOf(b, program.cs[p])] = toldNow;
                    return p + 1;
                case SET:
                    toldNow = registers[a];
                    globals[b] = toldNow;
                    return p + 1;
                case IF:
                    toldNow = registers[a] == 0 ? 1 : 0;
                    return toldNow == 1 ? b : p + 1;
                case GO:
                    return b;
                case STOP:
                    return END;
                default:
                    toldNow = valueOf(program.kinds[p], b, program.cs[p], inputs);
                    registers[a] = toldNow;
                    return p + 1;
            }
        }

        private boolean failsAt(Program program, int p) {
            return program.kinds[p] == SHARE && registers[program.cs[p]] == 0 || program.isOfFailingGlobal(p);
        }

        private int itemOf(int register, int name) {
            return rowOf[name] * ITEMS + (registers[register] & (ITEMS - 1));
        }

        /** What a PLACE of a KIND that sets a REGISTER makes of it. */
        private int valueOf(int kind, int b, int c, int[] inputs) {
            switch (kind) {
                case NUMBER:
                    return b;
                case INPUT:
                    return inputs[b];
                case ADD:
                    return registers[b] + registers[c];
                case LESS:
                    return registers[b] < registers[c] ? 1 : 0;
                case TIMES:
                    return registers[b] * registers[c];
                case SHARE:
                    int divisor = registers[c];
                    return divisor == 0 ? 0 : registers[b] / divisor;
                case GET:
                    return items[itemOf(b, c)];
                case USE:
                    return globals[b];
                default:
                    return 0;
            }
        }

        boolean toldLike(Machine other) {
            if (toldCount != other.toldCount) {
                return false;
            }
            for (int k = 0; k < toldCount; k++) {
                if (told[k] != other.told[k]) {
                    return false;
                }
            }
            return true;
        }
    }

    /** What HANGS on what in a program as it was when findAll() saw it. */
    private static final class Reasons {
        private int size;
        private final int[] nexts = new int[MOST_PLACES];
        private final int[] widerNexts = new int[MOST_PLACES];
        private final int[] followers = new int[MOST_PLACES];
        // For each kind, the PLACES that each one HANGS on by it.
        private final int[][] hangs = new int[BY_CONTROL + 1][MOST_PLACES];
        private final int[] hangsAtAll = new int[MOST_PLACES];
        private final int[] hangsThin = new int[MOST_PLACES];
        private final int[] back = new int[MOST_PLACES];
        private final int[] thin = new int[MOST_PLACES];
        // PLACES from which so many steps from one to a CAUSE of it can lead to the last one of a WAY.
        private final int[] away = new int[MOST_PLACES];

        int backOf(int p) {
            return back[p];
        }

        int thinOf(int p) {
            return thin[p];
        }

        int forwardOf(int p) {
            return whoseSetHolds(p, back);
        }

        int thinlyOf(int p) {
            return whoseSetHolds(p, thin);
        }

        int followersOf(int p) {
            return followers[p];
        }

        int howManyCauses(int p) {
            int sum = 0;
            for (int kind = BY_REGISTER; kind <= BY_CONTROL; kind++) {
                sum += Integer.bitCount(hangs[kind][p]);
            }
            return sum;
        }

        int kthCause(int p, int k, boolean kindWanted) {
            int before = k;
            for (int u = 0; u < size; u++) {
                for (int kind = BY_REGISTER; kind <= BY_CONTROL; kind++) {
                    if (holds(hangs[kind][p], u)) {
                        if (before == 0) {
                            return kindWanted ? kind : u;
                        }
                        before--;
                    }
                }
            }
            return NONE;
        }

        /** Writes the WAY from v to u, which must be in BACK of v; answers its length. */
        int shortestWay(int v, int u, int[] places) {
            int distance = measureWays(v, u);
            int at = v;
            places[0] = v;
            for (int k = 1; k <= distance; k++) {
                at = leastOf(hangsAtAll[at] & away[distance - k]);
                places[k] = at;
            }
            return distance + 1;
        }

        /** Fills away up to the first distance at which v is met. */
        private int measureWays(int v, int u) {
            away[0] = 1 << u;
            int distance = 0;
            while (!holds(away[distance], v) && distance < MOST_PLACES - 1) {
                distance++;
                away[distance] = allThatHangOn(away[distance - 1]);
            }
            return distance;
        }

        private int allThatHangOn(int set) {
            int found = 0;
            for (int p = 0; p < size; p++) {
                if ((hangsAtAll[p] & set) != 0) {
                    found |= 1 << p;
                }
            }
            return found;
        }

        private static int leastOf(int set) {
            int p = 0;
            while (p < MOST_PLACES - 1 && !holds(set, p)) {
                p++;
            }
            return p;
        }

        private int whoseSetHolds(int p, int[] sets) {
            int found = 0;
            for (int q = 0; q < size; q++) {
                if (holds(sets[q], p)) {
                    found |= 1 << q;
                }
            }
            return found;
        }

        void findAll(Program program) {
            size = program.size;
            takeNexts(program);
            forgetHanging();
            findFollowers();
            for (int u = 0; u < size; u++) {
                findHangingByData(program, u);
                findHangingByNames(program, u);
                findHangingByControl(u);
            }
            closeHanging();
        }

        private void closeHanging() {
            for (int p = 0; p < size; p++) {
                hangsAtAll[p] = hangs[BY_REGISTER][p] | hangs[BY_NAMES][p] | hangs[BY_GLOBAL][p] | hangs[BY_CONTROL][p];
                hangsThin[p] |= hangs[BY_NAMES][p];
            }
            for (int p = 0; p < size; p++) {
                back[p] = withAllBehind(1 << p, hangsAtAll);
                thin[p] = withAllBehind(1 << p, hangsThin);
            }
        }

        private void takeNexts(Program program) {
            for (int p = 0; p < size; p++) {
                nexts[p] = program.nextsOf(p);
                widerNexts[p] = program.widerNextsOf(p);
            }
        }

        private void forgetHanging() {
            for (int p = 0; p < size; p++) {
                followers[p] = 0;
                hangsThin[p] = 0;
                for (int kind = BY_REGISTER; kind <= BY_CONTROL; kind++) {
                    hangs[kind][p] = 0;
                }
            }
        }

        private void findFollowers() {
            for (int v = 0; v < size; v++) {
                int passing = endReachedWithout(v);
                for (int u = 0; u < size; u++) {
                    if (u != v && !holds(passing, u)) {
                        followers[u] |= 1 << v;
                    }
                }
            }
        }

        /** PLACES from which a way of WIDER NEXTS leads to the END and does not go by v. */
        private int endReachedWithout(int v) {
            int found = 1 << END;
            int before = 0;
            for (int round = 0; found != before && round <= MOST_PLACES; round++) {
                before = found;
                for (int u = size - 1; u >= 0; u--) {
                    if (u != v && (widerNexts[u] & found) != 0) {
                        found |= 1 << u;
                    }
                }
            }
            return found;
        }

        private void findHangingByData(Program program, int u) {
            int what = program.setBy(u);
            if (what == 0) {
                return;
            }
            int kind = what < 1 << REGISTERS ? BY_REGISTER : BY_GLOBAL;
            int reached = reachedFrom(u, settersOf(program, what));
            for (int v = 0; v < size; v++) {
                if (holds(reached, v) && (program.readBy(v) & what) != 0) {
                    hangs[kind][v] |= 1 << u;
                }
                if (holds(reached, v) && (program.thinlyReadBy(v) & what) != 0) {
                    hangsThin[v] |= 1 << u;
                }
            }
        }

        private int settersOf(Program program, int what) {
            int setters = 0;
            for (int p = 0; p < size; p++) {
                if (program.setBy(p) == what) {
                    setters |= 1 << p;
                }
            }
            return setters;
        }

        private void findHangingByNames(Program program, int u) {
            if (program.kinds[u] != PUT) {
                return;
            }
            // A PUT of the same NAME may be of another item, so that none stands in the way.
            int reached = reachedFrom(u, 0);
            for (int v = 0; v < size; v++) {
                if (holds(reached, v) && program.kinds[v] == GET && program.mayShareRow(u, v)) {
                    hangs[BY_NAMES][v] |= 1 << u;
                }
            }
        }

        private void findHangingByControl(int u) {
            int led = widerNexts[u];
            for (int s = 0; s < size; s++) {
                if (holds(widerNexts[u], s)) {
                    led |= followers[s];
                }
            }
            led &= ~followers[u];
            for (int v = 0; v < size; v++) {
                if (holds(led, v)) {
                    hangs[BY_CONTROL][v] |= 1 << u;
                }
            }
        }

        /** PLACES to which a way of one or more NEXTS leads from u with no PLACE of stops between. */
        private int reachedFrom(int u, int stops) {
            int found = nexts[u];
            int before = 0;
            for (int round = 0; found != before && round <= MOST_PLACES; round++) {
                before = found;
                for (int p = 0; p < size; p++) {
                    if (holds(found & ~stops, p)) {
                        found |= nexts[p];
                    }
                }
            }
            return found;
        }

        private int withAllBehind(int first, int[] behind) {
            int found = first;
            int before = 0;
            for (int round = 0; found != before && round <= MOST_PLACES; round++) {
                before = found;
                for (int p = 0; p < size; p++) {
                    if (holds(found, p)) {
                        found |= behind[p];
                    }
                }
            }
            return found;
        }
    }
}
