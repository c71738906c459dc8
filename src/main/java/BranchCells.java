/** A runner of tasks that branch, each with cells of its own branch, which come together again when one joins another. */
public final class BranchCells {
    public static final int BAD = -1, NO = -2, FULL = -3, NONE = -4;

    private static final int CELLS = 16, KINDS = 7, BLOCKS = 8, CODES = 40, MERGERS = 4, ACTS = 12;
    private static final int SLOTS = 8, PILE = 12, OUTS = 60;
    private static final int MOST_STEPS = 200, MOST_FORKS = 3, MOST_DEPTH = 3;
    /** One first TASK, and three FORKS of each TASK down to the third level: 1 + 3 + 9 + 27. */
    private static final int TASKS = 40;
    /** SEGMENT 0, and two more by each FORK. */
    private static final int SEGMENTS = 79;
    private static final int STEPS_A_CALL = 300, STEPS_A_SCHEDULE = 2000;
    private static final int ABOUTS = 14, ABOUT_OUT = 10, COUNTS = 10;

    private static final int MORE = 0, WAITS = 1, ENDED = 2, FAILED = 3, GONE = 4;

    private static final int KIND_PLAIN = 0, KIND_ADDING = 1, KIND_BITS = 2, KIND_MERGER = 3;

    private static final int PUT = 0, READ = 1, WRITE = 2, READ_AT = 3, WRITE_AT = 4, ADD = 5, SUBTRACT = 6;
    private static final int MULTIPLY = 7, DIVIDE = 8, LESS = 9, AND = 10, OR = 11, GO = 12, GO_IF_ZERO = 13;
    private static final int FROM_SLOT = 14, TO_SLOT = 15, DROP = 16, FORK = 17, JOIN = 18, TELL = 19, END = 20;
    private static final int FAIL = 21;
    /** How many each CODE takes from the PILE. */
    private static final int[] TAKES = {0, 0, 1, 1, 2, 2, 2, 2, 2, 2, 2, 2, 0, 1, 0, 1, 1, 1, 1, 1, 1, 1};

    private static final int DIVIDES_BY_ZERO = 1, WRONG_SORT = 2, TOO_DEEP = 4, TOO_MANY_FORKS = 5;
    private static final int TOO_MANY_STEPS = 6, PILE_IS_FULL = 7, PILE_HAS_TOO_FEW = 8, NO_SUCH_CELL = 9;
    private static final int NO_SUCH_BLOCK = 10, OWN_FAILURE = 100, OWN_FAILURE_BITS = 63;

    private static final int ACT_BASE = 0, ACT_OURS = 1, ACT_THEIRS = 2, ACT_NUMBER = 3, ACT_ADD = 4;
    private static final int ACT_SUBTRACT = 5, ACT_LESSER = 6, ACT_GREATER = 7, ACT_AND = 8, ACT_OR = 9, ACT_XOR = 10;

    private static final int DRAW_FACTOR = 1103515245, DRAW_ADDEND = 12345, DRAW_MASK = 0x7fffffff;
    private static final int DRAW_DIVISOR = 65536;

    private final Runner run;
    private final Programs programs;

    public BranchCells() {
        run = new Runner();
        programs = run.programs;
    }

    // ---- programs

    public int block() {
        if (programs.blocksMade >= BLOCKS) {
            return FULL;
        }
        programs.blocksMade++;
        return programs.blocksMade - 1;
    }

    public int code(int block, int op, int a) {
        Listing codes = programs.blockAt(block);
        if (codes == null || op < PUT || op > FAIL || !numberSuits(op, a)) {
            return BAD;
        }
        if (run.begun) {
            return NO;
        }
        return codes.append(op, a);
    }

    private static boolean numberSuits(int op, int a) {
        switch (op) {
            case READ:
            case WRITE:
                return isCell(a);
            case GO:
            case GO_IF_ZERO:
                return a >= 0 && a <= CODES;
            case FROM_SLOT:
            case TO_SLOT:
                return a >= 0 && a < SLOTS;
            case FORK:
                return a >= 0 && a < BLOCKS;
            default:
                return true;
        }
    }

    private static boolean isCell(long cell) {
        return cell >= 0 && cell < CELLS;
    }

    public int merger() {
        if (programs.mergersMade >= MERGERS) {
            return FULL;
        }
        programs.mergersMade++;
        return programs.mergersMade - 1;
    }

    public int act(int merger, int op, int a) {
        Merger chosen = programs.mergerAt(merger);
        if (chosen == null || op < ACT_BASE || op > ACT_XOR) {
            return BAD;
        }
        if (run.begun) {
            return NO;
        }
        return chosen.acts.append(op, a);
    }

    public long tells(int merger, long base, long ours, long theirs) {
        Merger chosen = programs.mergerAt(merger);
        if (chosen == null) {
            return BAD;
        }
        return chosen.leavesOne() ? chosen.outcome(base, ours, theirs) : NONE;
    }

    public int isRight(int merger) {
        Merger chosen = programs.mergerAt(merger);
        if (chosen == null) {
            return BAD;
        }
        return chosen.leavesOne() ? 1 : 0;
    }

    public int kind(int cell, int k) {
        if (!isCell(cell) || k < KIND_PLAIN || k >= KINDS) {
            return BAD;
        }
        if (run.begun || (k >= KIND_MERGER && programs.mergerAt(k - KIND_MERGER) == null)) {
            return NO;
        }
        int before = programs.kinds[cell];
        programs.kinds[cell] = k;
        return before;
    }

    // ---- runs

    public int start(long v) {
        if (programs.blocksMade == 0 || !programs.kindsCanMerge()) {
            return NO;
        }
        run.begin(v);
        return 1;
    }

    public int stop() {
        if (!run.begun) {
            return NO;
        }
        int tasks = run.tasksMade;
        run.clear();
        return tasks;
    }

    public int step(int task, int n) {
        Task t = run.taskAt(task);
        if (t == null || n < 1 || n > STEPS_A_CALL) {
            return BAD;
        }
        for (int done = 0; done < n && run.isReady(t); done++) {
            run.advance(t);
        }
        return run.stateOf(t);
    }

    public int ready(int i) {
        Task t = run.nthReady(i);
        return t == null ? NONE : t.number;
    }

    public int deep(int n) {
        if (n < 1 || n > STEPS_A_SCHEDULE) {
            return BAD;
        }
        if (!run.begun) {
            return NO;
        }
        for (int done = 0; done < n; done++) {
            Task t = run.lastReady();
            if (t == null) {
                return done;
            }
            run.advance(t);
        }
        return n;
    }

    public int drawn(int seed, int n) {
        if (seed < 0 || n < 1 || n > STEPS_A_SCHEDULE) {
            return BAD;
        }
        if (!run.begun) {
            return NO;
        }
        int s = seed;
        for (int done = 0; done < n; done++) {
            int choices = run.readyTasks();
            if (choices <= 0) {
                return done;
            }
            s = (s * DRAW_FACTOR + DRAW_ADDEND) & DRAW_MASK;
            Task t = run.nthReady(s / DRAW_DIVISOR % choices);
            if (t == null) {
                return done;
            }
            run.advance(t);
        }
        return n;
    }

    public int about(int task, int what) {
        Task t = run.taskAt(task);
        if (t == null || what < 0 || what >= ABOUTS) {
            return BAD;
        }
        switch (what) {
            case 0: return run.stateOf(t);
            case 1: return t.parent;
            case 2: return t.forkOfParent;
            case 3: return t.steps;
            case 4: return t.failure;
            case 5: return t.blockNumber;
            case 6: return t.place;
            case 7: return t.depth;
            case 8: return t.forks;
            case 9: return t.pile.size;
            case 10: return t.toldCount;
            case 11: return run.awaitedBy(t);
            case 12: return t.state == GONE ? NONE : t.present;
            default: return t.root;
        }
    }

    public long result(int task) {
        Task t = run.taskAt(task);
        return t == null || t.endingIsHandle ? 0 : t.ending;
    }

    public long out(int task, int i) {
        Task t = run.taskAt(task);
        return t == null || i < 0 || i >= t.toldCount || i >= OUTS ? 0 : t.told[i];
    }

    public long read(int task, int cell) {
        Task t = run.taskAt(task);
        return t == null || t.state == GONE ? 0 : run.segments.valueFrom(t.present, cell);
    }

    public long mark(int task) {
        Task t = run.taskAt(task);
        return t == null ? 0 : t.trail;
    }

    public int gather() {
        if (!run.begun) {
            return NO;
        }
        run.findHeld();
        run.findPinned();
        return run.segments.liftAll();
    }

    public long version(int segment, int cell) {
        run.findHeld();
        return run.segments.isHeld(segment) ? run.segments.valueIn(segment, cell) : 0;
    }

    public int below(int segment) {
        run.findHeld();
        return run.segments.isHeld(segment) ? run.segments.lower[segment] : BAD;
    }

    public int count(int what) {
        switch (what) {
            case 0: return programs.blocksMade;
            case 1: return programs.mergersMade;
            case 2: return run.tasksMade;
            case 3: return run.openTasks();
            case 4:
                run.findHeld();
                return run.segments.heldOnes();
            case 5:
                run.findHeld();
                return run.segments.heldVersions();
            case 6: return run.segments.made;
            case 7: return run.allSteps();
            case 8: return run.mergedCells;
            case 9: return run.begun ? 1 : 0;
            default: return BAD;
        }
    }

    public long digest() {
        long h = 13;
        for (int what = 0; what < COUNTS; what++) {
            h = 31 * h + count(what);
        }
        for (int cell = 0; cell < CELLS; cell++) {
            h = 31 * h + programs.kinds[cell];
        }
        for (int task = 0; task < run.tasksMade; task++) {
            h = withTask(h, task);
        }
        return h;
    }

    private long withTask(long before, int task) {
        long h = before;
        for (int what = 0; what < ABOUTS; what++) {
            h = 31 * h + about(task, what);
        }
        h = 31 * h + result(task);
        h = 31 * h + mark(task);
        int told = about(task, ABOUT_OUT);
        for (int i = 0; i < told; i++) {
            h = 31 * h + out(task, i);
        }
        for (int cell = 0; cell < CELLS; cell++) {
            h = 31 * h + read(task, cell);
        }
        return h;
    }

    /** A row of operations, each with a number: a BLOCK's CODES or a MERGER's ACTS. */
    private static final class Listing {
        final int[] ops;
        final int[] numbers;
        int length;

        Listing(int most) {
            ops = new int[Math.max(most, 0)];
            numbers = new int[Math.max(most, 0)];
        }

        int append(int op, int a) {
            if (length >= ops.length || length >= numbers.length) {
                return FULL;
            }
            ops[length] = op;
            numbers[length] = a;
            length++;
            return length;
        }

        boolean hasPlace(int place) {
            return place >= 0 && place < length && place < ops.length && place < numbers.length;
        }
    }

    /** A row of ACTS, and the PILE on which they work. */
    private static final class Merger {
        final Listing acts = new Listing(ACTS);
        /** Each ACT puts one at most, so there are never more than there are ACTS. */
        final long[] pile = new long[ACTS];

        boolean leavesOne() {
            int size = 0;
            for (int i = 0; i < ACTS && acts.hasPlace(i); i++) {
                if (acts.ops[i] <= ACT_NUMBER) {
                    size++;
                } else if (size < 2) {
                    return false;
                } else {
                    size--;
                }
            }
            return size == 1;
        }

        /** What a MERGER that is RIGHT tells. */
        long outcome(long base, long ours, long theirs) {
            int size = 0;
            for (int i = 0; i < ACTS && acts.hasPlace(i); i++) {
                int op = acts.ops[i];
                if (op > ACT_NUMBER && size >= 2) {
                    size--;
                    pile[size - 1] = combined(op, pile[size - 1], pile[size]);
                } else if (op <= ACT_NUMBER && size < ACTS) {
                    pile[size] = op == ACT_BASE ? base : op == ACT_OURS ? ours : op == ACT_THEIRS ? theirs : acts.numbers[i];
                    size++;
                }
            }
            return pile[0];
        }

        static long combined(int op, long x, long y) {
            switch (op) {
                case ACT_ADD: return x + y;
                case ACT_SUBTRACT: return x - y;
                case ACT_LESSER: return x < y ? x : y;
                case ACT_GREATER: return x > y ? x : y;
                case ACT_AND: return x & y;
                case ACT_OR: return x | y;
                default: return x ^ y;
            }
        }
    }

    /** What is made ahead of runs: BLOCKS, MERGERS and the KINDS of the CELLS. */
    private static final class Programs {
        final Listing[] blocks = new Listing[BLOCKS];
        final Merger[] mergers = new Merger[MERGERS];
        final int[] kinds = new int[CELLS];
        int blocksMade;
        int mergersMade;

        Programs() {
            for (int i = 0; i < BLOCKS; i++) {
                blocks[i] = new Listing(CODES);
            }
            for (int i = 0; i < MERGERS; i++) {
                mergers[i] = new Merger();
            }
        }

        Listing blockAt(int block) {
            return block >= 0 && block < blocksMade && block < BLOCKS ? blocks[block] : null;
        }

        Merger mergerAt(int merger) {
            return merger >= 0 && merger < mergersMade && merger < MERGERS ? mergers[merger] : null;
        }

        boolean kindsCanMerge() {
            for (int cell = 0; cell < CELLS; cell++) {
                if (kinds[cell] >= KIND_MERGER) {
                    Merger chosen = mergerAt(kinds[cell] - KIND_MERGER);
                    if (chosen == null || !chosen.leavesOne()) {
                        return false;
                    }
                }
            }
            return true;
        }
    }

    /** A row of NUMBERS and HANDLES; a HANDLE is kept as the number of its TASK. */
    private static final class Values {
        final long[] values;
        final boolean[] handles;
        /** How many there are when the row is a PILE; SLOTS do without it. */
        int size;

        Values(int most) {
            values = new long[Math.max(most, 0)];
            handles = new boolean[Math.max(most, 0)];
        }

        boolean hasPlace(int i) {
            return i >= 0 && i < values.length && i < handles.length;
        }

        long valueAt(int i) {
            return hasPlace(i) ? values[i] : 0;
        }

        boolean handleAt(int i) {
            return hasPlace(i) && handles[i];
        }

        void set(int i, long value, boolean handle) {
            if (hasPlace(i)) {
                values[i] = value;
                handles[i] = handle;
            }
        }

        void empty() {
            size = 0;
            for (int i = 0; i < values.length && i < handles.length; i++) {
                values[i] = 0;
                handles[i] = false;
            }
        }
    }

    /** The SEGMENTS of a run with their VERSIONS; a SEGMENT always has a greater number than the one below it. */
    private static final class Segments {
        final long[] values = new long[SEGMENTS * CELLS];
        /** Of each SEGMENT the CELLS that have a VERSION in it, a bit each. */
        final int[] cells = new int[SEGMENTS];
        final int[] lower = new int[SEGMENTS];
        final boolean[] held = new boolean[SEGMENTS];
        /** PRESENT for a TASK that is not GONE, or its ROOT. */
        final boolean[] pinned = new boolean[SEGMENTS];
        int made;

        int addAbove(int segment) {
            if (made >= SEGMENTS) {
                return NONE;
            }
            cells[made] = 0;
            lower[made] = segment;
            made++;
            return made - 1;
        }

        boolean isMade(int segment) {
            return segment >= 0 && segment < made && segment < SEGMENTS;
        }

        boolean isHeld(int segment) {
            return isMade(segment) && held[segment];
        }

        long valueIn(int segment, int cell) {
            boolean there = isMade(segment) && isCell(cell) && (cells[segment] >> cell & 1) == 1;
            return there ? values[segment * CELLS + cell] : 0;
        }

        /** What is READ from a SEGMENT on. */
        long valueFrom(int segment, int cell) {
            if (!isCell(cell)) {
                return 0;
            }
            int s = segment;
            for (int i = 0; i < SEGMENTS && isMade(s); i++) {
                if ((cells[s] >> cell & 1) == 1) {
                    return values[s * CELLS + cell];
                }
                s = lower[s];
            }
            return 0;
        }

        void write(int segment, int cell, long value) {
            if (isMade(segment) && isCell(cell)) {
                cells[segment] |= 1 << cell;
                values[segment * CELLS + cell] = value;
            }
        }

        /** The CELLS with a VERSION in a SEGMENT or one below it, but above the root, a bit each. */
        int cellsBetween(int segment, int root) {
            int found = 0;
            int s = segment;
            for (int i = 0; i < SEGMENTS && s != root && isMade(s); i++) {
                found |= cells[s];
                s = lower[s];
            }
            return found;
        }

        void forgetHeldAndPinned() {
            for (int s = 0; s < SEGMENTS; s++) {
                held[s] = false;
                pinned[s] = false;
            }
        }

        void hold(int segment) {
            int s = segment;
            for (int i = 0; i < SEGMENTS && isMade(s) && !held[s]; i++) {
                held[s] = true;
                s = lower[s];
            }
        }

        void pin(int segment) {
            if (isMade(segment)) {
                pinned[segment] = true;
            }
        }

        int heldOnes() {
            int found = 0;
            for (int s = 0; s < SEGMENTS && isMade(s); s++) {
                found += held[s] ? 1 : 0;
            }
            return found;
        }

        int heldVersions() {
            int found = 0;
            for (int s = 0; s < SEGMENTS && isMade(s); s++) {
                found += held[s] ? Integer.bitCount(cells[s]) : 0;
            }
            return found;
        }

        /** One round is enough: what is lifted leaves as many HELD ones directly above every other SEGMENT as there were. */
        int liftAll() {
            int fewer = 0;
            for (int s = 0; s < SEGMENTS && isMade(s); s++) {
                if (held[s] && !pinned[s]) {
                    fewer += lift(s, onlyOneAbove(s));
                }
            }
            return fewer;
        }

        private int onlyOneAbove(int segment) {
            int found = NONE;
            for (int s = 0; s < SEGMENTS && isMade(s); s++) {
                if (held[s] && lower[s] == segment) {
                    if (found != NONE) {
                        return NONE;
                    }
                    found = s;
                }
            }
            return found;
        }

        private int lift(int segment, int above) {
            if (!isMade(segment) || !isMade(above)) {
                return 0;
            }
            int both = cells[segment] & cells[above];
            int moved = cells[segment] & ~cells[above];
            for (int cell = 0; cell < CELLS; cell++) {
                if ((moved >> cell & 1) == 1) {
                    write(above, cell, values[segment * CELLS + cell]);
                }
            }
            lower[above] = lower[segment];
            held[segment] = false;
            return Integer.bitCount(both);
        }
    }

    /** A TASK; what it was at its end stays to be asked for when it is GONE. */
    private static final class Task {
        final int number;
        final Values slots = new Values(SLOTS);
        final Values pile = new Values(PILE);
        final long[] told = new long[OUTS];
        int toldCount;
        /** MORE, ENDED, FAILED or GONE: whether it WAITS hangs on another TASK and is looked at when asked. */
        int state;
        int failure;
        int blockNumber;
        int place;
        int steps;
        int parent;
        int forkOfParent;
        int depth;
        int forks;
        int present;
        int root;
        long trail;
        long ending;
        boolean endingIsHandle;

        Task(int number) {
            this.number = number;
        }

        void begin(int block, int segment, long x, boolean handle) {
            slots.empty();
            slots.set(0, x, handle);
            pile.empty();
            toldCount = 0;
            state = MORE;
            failure = 0;
            blockNumber = block;
            place = 0;
            steps = 0;
            parent = NONE;
            forkOfParent = 0;
            depth = 0;
            forks = 0;
            present = segment;
            root = NONE;
            trail = 17;
            ending = 0;
            endingIsHandle = false;
        }

        void comeFrom(Task forker, int parted) {
            parent = forker.number;
            forkOfParent = forker.forks;
            depth = forker.depth + 1;
            root = parted;
        }

        void trace(long what) {
            trail = 31 * trail + what;
        }

        void tell(long x) {
            if (toldCount < OUTS) {
                told[toldCount] = x;
                toldCount++;
            }
        }

        void end(long x, boolean handle) {
            state = ENDED;
            ending = x;
            endingIsHandle = handle;
        }

        void fail(int why) {
            state = FAILED;
            failure = why;
        }
    }

    /** The TASKS of a run, who of them is ready, and what their CODES do. */
    private static final class Runner {
        final Programs programs = new Programs();
        final Segments segments = new Segments();
        final Task[] tasks = new Task[TASKS];
        int tasksMade;
        int mergedCells;
        boolean begun;
        /** What the CODE that is being done has taken. */
        long x;
        long y;
        boolean xIsHandle;

        Runner() {
            for (int i = 0; i < TASKS; i++) {
                tasks[i] = new Task(i);
            }
        }

        void clear() {
            tasksMade = 0;
            mergedCells = 0;
            segments.made = 0;
            begun = false;
        }

        void begin(long v) {
            clear();
            begun = true;
            tasksMade = 1;
            tasks[0].begin(0, segments.addAbove(NONE), v, false);
            endIfBehindLast(tasks[0]);
        }

        boolean isTask(long number) {
            return number >= 0 && number < tasksMade && number < TASKS;
        }

        Task taskAt(long number) {
            return isTask(number) ? tasks[(int) number] : null;
        }

        int openTasks() {
            int found = 0;
            for (int i = 0; i < TASKS && isTask(i); i++) {
                found += tasks[i].state == MORE ? 1 : 0;
            }
            return found;
        }

        int allSteps() {
            int sum = 0;
            for (int i = 0; i < TASKS && isTask(i); i++) {
                sum += tasks[i].steps;
            }
            return sum;
        }

        void findHeld() {
            segments.forgetHeldAndPinned();
            for (int i = 0; i < TASKS && isTask(i); i++) {
                if (tasks[i].state != GONE) {
                    segments.hold(tasks[i].present);
                }
            }
        }

        void findPinned() {
            for (int i = 0; i < TASKS && isTask(i); i++) {
                if (tasks[i].state != GONE) {
                    segments.pin(tasks[i].present);
                    segments.pin(tasks[i].root);
                }
            }
        }

        /** The number of the TASK for which this one WAITS, or NONE. */
        int awaitedBy(Task t) {
            int top = t.pile.size - 1;
            if (t.state != MORE || t.steps >= MOST_STEPS || !t.pile.handleAt(top)) {
                return NONE;
            }
            Listing block = programs.blockAt(t.blockNumber);
            if (block == null || !block.hasPlace(t.place) || block.ops[t.place] != JOIN) {
                return NONE;
            }
            Task awaited = taskAt(t.pile.valueAt(top));
            return awaited == null || awaited.state != MORE ? NONE : awaited.number;
        }

        boolean isReady(Task t) {
            return t.state == MORE && awaitedBy(t) == NONE;
        }

        int stateOf(Task t) {
            return awaitedBy(t) == NONE ? t.state : WAITS;
        }

        int readyTasks() {
            int found = 0;
            for (int i = 0; i < TASKS && isTask(i); i++) {
                found += isReady(tasks[i]) ? 1 : 0;
            }
            return found;
        }

        Task nthReady(int n) {
            int ahead = 0;
            for (int i = 0; i < TASKS && isTask(i); i++) {
                if (isReady(tasks[i])) {
                    if (ahead == n) {
                        return tasks[i];
                    }
                    ahead++;
                }
            }
            return null;
        }

        Task lastReady() {
            for (int i = TASKS - 1; i >= 0; i--) {
                if (isTask(i) && isReady(tasks[i])) {
                    return tasks[i];
                }
            }
            return null;
        }

        /** Does the next CODE of a TASK that is ready. */
        void advance(Task t) {
            int place = t.place;
            Listing block = programs.blockAt(t.blockNumber);
            if (block == null || !block.hasPlace(place)) {
                return;
            }
            int op = block.ops[place];
            t.steps++;
            t.trace(op);
            int why = takeFor(t, op);
            if (why == 0) {
                t.place++;
                why = perform(t, op, block.numbers[place]);
            }
            if (why == 0) {
                endIfBehindLast(t);
            } else {
                t.place = place;
                t.fail(why);
            }
        }

        private void endIfBehindLast(Task t) {
            Listing block = programs.blockAt(t.blockNumber);
            if (t.state == MORE && (block == null || !block.hasPlace(t.place))) {
                t.end(0, false);
            }
        }

        /** Takes what a CODE takes, into x and y; answers 0, or by what the TASK FAILS. */
        private int takeFor(Task t, int op) {
            int takes = op >= 0 && op < TAKES.length ? TAKES[op] : 0;
            if (t.steps > MOST_STEPS) {
                return TOO_MANY_STEPS;
            }
            if (t.pile.size < takes) {
                return PILE_HAS_TOO_FEW;
            }
            // both are taken before their SORTS are looked at: what was taken is gone, whichever of them is wrong
            boolean yIsHandle = takes == 2 && takeY(t.pile);
            xIsHandle = takes > 0 && takeX(t.pile);
            return yIsHandle || (takes > 0 && !sortSuits(op, xIsHandle)) ? WRONG_SORT : 0;
        }

        /** Answers whether it is a HANDLE. */
        private boolean takeY(Values pile) {
            pile.size--;
            y = pile.valueAt(pile.size);
            return pile.handleAt(pile.size);
        }

        /** Answers whether it is a HANDLE. */
        private boolean takeX(Values pile) {
            pile.size--;
            x = pile.valueAt(pile.size);
            return pile.handleAt(pile.size);
        }

        private static boolean sortSuits(int op, boolean handle) {
            switch (op) {
                case TO_SLOT:
                case DROP:
                case FORK:
                case END:
                    return true;
                case JOIN:
                    return handle;
                default:
                    return !handle;
            }
        }

        /** Does a CODE with what it has taken; answers 0, or by what the TASK FAILS. */
        private int perform(Task t, int op, int a) {
            switch (op) {
                case PUT: return put(t, a, false);
                case READ: return put(t, segments.valueFrom(t.present, a), false);
                case READ_AT: return isCell(x) ? put(t, segments.valueFrom(t.present, (int) x), false) : NO_SUCH_CELL;
                case WRITE: return write(t, a, x);
                case WRITE_AT: return write(t, x, y);
                case FROM_SLOT: return putFromSlot(t, a);
                case FORK: return fork(t, a);
                case JOIN:
                    int why = receive(t, taskAt(x));
                    return why == 0 ? putMerged(t, taskAt(x)) : why;
                case FAIL: return OWN_FAILURE + (int) (x & OWN_FAILURE_BITS);
                case GO:
                    t.place = a;
                    return 0;
                case GO_IF_ZERO:
                    t.place = x == 0 ? a : t.place;
                    return 0;
                case TO_SLOT:
                    t.slots.set(a, x, xIsHandle);
                    return 0;
                case DROP:
                    return 0;
                case TELL:
                    t.tell(x);
                    return 0;
                case END:
                    t.end(x, xIsHandle);
                    return 0;
                default: return putCombined(t, op);
            }
        }

        private int putCombined(Task t, int op) {
            switch (op) {
                case ADD: return put(t, x + y, false);
                case SUBTRACT: return put(t, x - y, false);
                case MULTIPLY: return put(t, x * y, false);
                case DIVIDE: return y == 0 ? DIVIDES_BY_ZERO : put(t, x / y, false);
                case LESS: return put(t, x < y ? 1 : 0, false);
                case AND: return put(t, x & y, false);
                default: return put(t, x | y, false);
            }
        }

        private static int put(Task t, long value, boolean handle) {
            if (t.pile.size >= PILE) {
                return PILE_IS_FULL;
            }
            t.pile.set(t.pile.size, value, handle);
            t.pile.size++;
            return 0;
        }

        private static int putFromSlot(Task t, int slot) {
            boolean handle = t.slots.handleAt(slot);
            int why = put(t, t.slots.valueAt(slot), handle);
            if (why == 0 && handle) {
                t.slots.set(slot, 0, false);
            }
            return why;
        }

        private int write(Task t, long cell, long value) {
            if (!isCell(cell)) {
                return NO_SUCH_CELL;
            }
            segments.write(t.present, (int) cell, value);
            return 0;
        }

        private int fork(Task t, int block) {
            if (programs.blockAt(block) == null) {
                return NO_SUCH_BLOCK;
            }
            if (t.depth >= MOST_DEPTH) {
                return TOO_DEEP;
            }
            if (t.forks >= MOST_FORKS || tasksMade >= TASKS) {
                return TOO_MANY_FORKS;
            }
            int parted = t.present;
            t.present = segments.addAbove(parted);
            t.forks++;
            Task forked = tasks[tasksMade];
            tasksMade++;
            forked.begin(block, segments.addAbove(parted), x, xIsHandle);
            forked.comeFrom(t, parted);
            endIfBehindLast(forked);
            return put(t, forked.number, true);
        }

        /** The JOINED one goes, and its MARK and OUT come to the TASK; answers 0, or by what it FAILED. */
        private int receive(Task t, Task joined) {
            if (joined == null) {
                return WRONG_SORT;
            }
            t.trace(joined.trail);
            for (int i = 0; i < joined.toldCount && i < OUTS; i++) {
                t.tell(joined.told[i]);
            }
            joined.state = GONE;
            return joined.failure;
        }

        private int putMerged(Task t, Task joined) {
            if (joined == null) {
                return WRONG_SORT;
            }
            int cells = segments.cellsBetween(joined.present, joined.root);
            for (int cell = 0; cell < CELLS; cell++) {
                if ((cells >> cell & 1) == 1) {
                    long base = segments.valueFrom(joined.root, cell);
                    long theirs = segments.valueFrom(joined.present, cell);
                    long ours = segments.valueFrom(t.present, cell);
                    segments.write(t.present, cell, merged(programs.kinds[cell], base, ours, theirs));
                    mergedCells++;
                }
            }
            return put(t, joined.ending, joined.endingIsHandle);
        }

        private long merged(int kind, long base, long ours, long theirs) {
            if (kind == KIND_ADDING) {
                return ours + theirs - base;
            }
            if (kind == KIND_BITS) {
                return (ours | (theirs & ~base)) & ~(base & ~theirs);
            }
            Merger chosen = programs.mergerAt(kind - KIND_MERGER);
            return chosen == null ? theirs : chosen.outcome(base, ours, theirs);
        }
    }
}
