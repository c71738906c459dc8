/** SEGMENTS and VERSIONS, what comes together by KINDS, and promises 20 to 24. */
public final class SegmentsTest {
    private static int wrong = 0;
    private static final int PUT = 0, READ = 1, WRITE = 2, ADD = 5, FROM = 14, TO = 15, DROP = 16;
    private static final int FORK = 17, JOIN = 18, TELL = 19, END = 20;
    private static final int BAD = BranchCells.BAD, NO = BranchCells.NO, NONE = BranchCells.NONE;
    private static final int[] WRONG_NUMBERS = {-1, Integer.MIN_VALUE, Integer.MAX_VALUE};

    private static void due(String call, long got, long want) {
        if (got != want) {
            wrong++;
            System.out.println(call + " answered " + got + ", due is " + want);
        }
    }

    private static void add(BranchCells x, int[]... blocks) {
        for (int[] codes : blocks) {
            int block = x.block();
            for (int i = 0; i + 1 < codes.length; i += 2) {
                due("code(" + block + ", " + codes[i] + ", " + codes[i + 1] + ")", x.code(block, codes[i], codes[i + 1]), i / 2 + 1);
            }
        }
    }

    private static BranchCells started(int[]... blocks) {
        BranchCells x = new BranchCells();
        add(x, blocks);
        due("start", x.start(0), 1);
        return x;
    }

    private static int[] of(int... codes) {
        return codes;
    }

    /** What CELL 3 has when base was written, then theirs by the JOINED one and ours by the JOINING one. */
    private static long merged(int kind, int base, int ours, int theirs, int... acts) {
        BranchCells x = new BranchCells();
        for (int m = 0; m <= kind - 3; m++) {
            x.merger();
        }
        for (int i = 0; i + 1 < acts.length; i += 2) {
            x.act(kind - 3, acts[i], acts[i + 1]);
        }
        x.kind(3, kind);
        add(x, of(PUT, base, WRITE, 3, PUT, 0, FORK, 1, PUT, ours, WRITE, 3, JOIN, 0), of(PUT, theirs, WRITE, 3));
        due("start", x.start(0), 1);
        x.deep(2000);
        due("count(8)", x.count(8), 1);
        due("about(0, 0)", x.about(0, 0), 2);
        return x.read(0, 3);
    }

    private static void kinds() {
        int[][] triples = {{5, 9, 7}, {0b1100, 0b1010, 0b0110}, {-1, 0, 5}, {0, -1, 0}, {7, 7, 7}, {6, 1, -8}};
        for (int[] t : triples) {
            int base = t[0];
            int ours = t[1];
            int theirs = t[2];
            String of = " of " + base + ", " + ours + ", " + theirs;
            due("PLAIN" + of, merged(0, base, ours, theirs), theirs);
            due("ADDING" + of, merged(1, base, ours, theirs), ours + theirs - base);
            long bits = 0;
            for (int bit = 0; bit < 64; bit++) {
                long b = (long) base >> bit & 1;
                long th = (long) theirs >> bit & 1;
                bits |= (b == th ? (long) ours >> bit & 1 : th) << bit;
            }
            due("BITS" + of, merged(2, base, ours, theirs), bits);
            for (int m = 0; m < 4; m++) {
                due("MERGER " + m + of, merged(3 + m, base, ours, theirs, 1, 0, 2, 0, 0, 0, 5, 0, 7, 0, 3, m, 4, 0),
                    Math.max((long) ours, (long) theirs - base) + m);
            }
        }
    }

    private static void joinsWriteWhatWasWritten() {
        // TASK 1 WRITES what was there before, and reads CELL 5, which it does not WRITE
        BranchCells x = started(of(PUT, 4, WRITE, 3, PUT, 0, FORK, 1, PUT, 8, WRITE, 5, PUT, 9, WRITE, 3, JOIN, 0, END, 0),
            of(PUT, 4, WRITE, 3, READ, 5, END, 0));
        x.deep(2000);
        due("PLAIN: theirs, though it is base", x.read(0, 3), 4);
        due("a CELL that they have not WRITTEN", x.read(0, 5), 8);
        due("what they READ", x.result(0), 0);
        due("23: count(8)", x.count(8), 1);
    }

    /** TASK 1 FORKS after it WROTE: its VERSIONS lie in two SEGMENTS above its ROOT. */
    private static void segmentsBetween() {
        BranchCells x = new BranchCells();
        x.kind(1, 1);
        add(x, of(PUT, 10, WRITE, 1, PUT, 0, FORK, 1, JOIN, 0),
            of(PUT, 11, WRITE, 1, PUT, 5, WRITE, 2, PUT, 0, FORK, 2, JOIN, 0, DROP, 0, PUT, 6, WRITE, 4),
            of(READ, 1, PUT, 100, ADD, 0, WRITE, 1));
        x.start(0);
        x.deep(2000);
        due("ADDING, through both", x.read(0, 1), 111);
        due("PLAIN, from the lower one", x.read(0, 2), 5);
        due("PLAIN, from the upper one", x.read(0, 4), 6);
        due("23: count(8)", x.count(8), 4);
        due("23: count(6)", x.count(6), 5);
        due("23: count(4)", x.count(4), 2);
        due("21: version(0, 1)", x.version(0, 1), 10);
        due("21: version(1, 1)", x.version(1, 1), 111);
        due("21: version(2, 1), not HELD", x.version(2, 1), 0);
        due("22: below(1)", x.below(1), 0);
        due("22: below(2), not HELD", x.below(2), BAD);
        due("22: below(4), not HELD", x.below(4), BAD);
    }

    private static void versions() {
        BranchCells x = started(of(PUT, 5, WRITE, 0, PUT, 0, WRITE, 15, PUT, 0, FORK, 1, PUT, 6, WRITE, 0, JOIN, 0), of(PUT, 7, WRITE, 1, PUT, 8));
        due("22: below(0)", x.below(0), NONE);
        due("22: below(1), not come yet", x.below(1), BAD);
        x.step(0, 300);
        x.step(1, 2);
        due("21: version(0, 0)", x.version(0, 0), 5);
        due("21: version(0, 15)", x.version(0, 15), 0);
        due("21: version(1, 0)", x.version(1, 0), 6);
        due("21: version(2, 0), none", x.version(2, 0), 0);
        due("21: version(2, 1)", x.version(2, 1), 7);
        due("21: version(3, 1)", x.version(3, 1), 0);
        due("21: version(2, 16)", x.version(2, 16), 0);
        due("22: below(0)", x.below(0), NONE);
        due("22: below(1)", x.below(1), 0);
        due("22: below(2)", x.below(2), 0);
        due("22: below(3)", x.below(3), BAD);
        for (int n : WRONG_NUMBERS) {
            due("21: version(" + n + ", 0)", x.version(n, 0), 0);
            due("21: version(0, " + n + ")", x.version(0, n), 0);
            due("22: below(" + n + ")", x.below(n), BAD);
            due("23: count(" + n + ")", x.count(n), BAD);
        }
        due("23: count(10)", x.count(10), BAD);
        due("23: count(5), a 0 that was WRITTEN counts", x.count(5), 4);
    }

    private static void gathers() {
        BranchCells fresh = new BranchCells();
        due("20: gather() without a run", fresh.gather(), NO);
        // three FORKS and JOINS one behind another: a chain of SEGMENTS below TASK 0's
        BranchCells x = started(of(PUT, 1, WRITE, 0, PUT, 0, FORK, 1, JOIN, 0, DROP, 0, PUT, 2, WRITE, 0, PUT, 20, WRITE, 2, PUT, 0, FORK, 1, JOIN, 0,
            DROP, 0, PUT, 3, WRITE, 0, PUT, 0, FORK, 2, TO, 1, PUT, 4, WRITE, 0, FROM, 1, JOIN, 0), of(PUT, 9, WRITE, 1), of(PUT, 30, WRITE, 3, PUT, 1));
        due("20: gather() at first", x.gather(), 0);
        x.step(0, 300);
        x.step(1, 300);
        due("20: gather(): 0 is the ROOT of an ENDED one", x.gather(), 0);
        due("23: count(4)", x.count(4), 3);
        x.step(0, 300);
        x.step(2, 300);
        x.step(0, 300);
        due("15: about(0, 11)", x.about(0, 11), 3);
        due("23: count(4): 0, 1, 3, 5 and 6", x.count(4), 5);
        due("23: count(5)", x.count(5), 1 + 3 + 2 + 1);
        long before = x.read(0, 0) * 1000 + x.read(0, 1) * 100 + x.read(0, 2);
        due("20: gather(): 0 into 1, 1 into 3", x.gather(), 3);
        due("23: count(4)", x.count(4), 3);
        due("23: count(5)", x.count(5), 4);
        due("23: count(6)", x.count(6), 7);
        due("22: below(0), it is no more", x.below(0), BAD);
        due("22: below(1), it is no more", x.below(1), BAD);
        due("22: below(3)", x.below(3), NONE);
        due("22: below(5)", x.below(5), 3);
        due("22: below(6)", x.below(6), 3);
        due("21: version(0, 0)", x.version(0, 0), 0);
        due("21: version(3, 0), it had one", x.version(3, 0), 3);
        due("21: version(3, 1)", x.version(3, 1), 9);
        due("21: version(3, 2), it came from 1", x.version(3, 2), 20);
        due("18: what TASK 0 READS stays", x.read(0, 0) * 1000 + x.read(0, 1) * 100 + x.read(0, 2), before);
        due("20: gather() again", x.gather(), 0);
        x.step(3, 300);
        x.step(0, 300);
        due("23: count(4)", x.count(4), 2);
        due("20: gather()", x.gather(), 1);
        due("23: count(4)", x.count(4), 1);
        due("22: below(5)", x.below(5), NONE);
        due("15: about(0, 12)", x.about(0, 12), 5);
        due("15: about(3, 13), a ROOT that is no more", x.about(3, 13), 3);
        due("21: version(5, 3)", x.version(5, 3), 30);
    }

    /** A SEGMENT between a TASK's PRESENT one and its ROOT goes up, and its VERSIONS are merged all the same. */
    private static void gathersAboveRoot() {
        BranchCells x = started(of(PUT, 1, WRITE, 0, PUT, 0, FORK, 1, JOIN, 0),
            of(PUT, 2, WRITE, 0, PUT, 3, WRITE, 1, PUT, 0, FORK, 2, JOIN, 0, DROP, 0, PUT, 4, WRITE, 1), of(PUT, 1));
        x.step(0, 300);
        x.step(1, 300);
        x.step(2, 300);
        due("11: step(1, 300)", x.step(1, 300), 2);
        due("20: gather(): 2 into 3", x.gather(), 1);
        due("22: below(3)", x.below(3), 0);
        due("22: below(0), a ROOT", x.below(0), NONE);
        due("21: version(3, 0)", x.version(3, 0), 2);
        x.step(0, 300);
        due("23: count(8)", x.count(8), 2);
        due("18: read(0, 0)", x.read(0, 0), 2);
        due("18: read(0, 1)", x.read(0, 1), 4);
    }

    /** TASK 1 ENDS with the HANDLE of TASK 2 and is JOINED: the ROOT of TASK 2 has one HELD SEGMENT above it, and stays. */
    private static void keepsRoots() {
        BranchCells x = new BranchCells();
        x.kind(1, 1);
        add(x, of(PUT, 3, WRITE, 1, PUT, 0, FORK, 1, JOIN, 0, JOIN, 0), of(PUT, 5, WRITE, 1, PUT, 0, FORK, 2, END, 0),
            of(READ, 1, PUT, 10, ADD, 0, WRITE, 1));
        x.start(0);
        x.step(0, 300);
        x.step(1, 300);
        x.step(2, 2);
        due("11: step(0, 300)", x.step(0, 300), 1);
        due("23: count(4): 0, 1, 2, 4", x.count(4), 4);
        due("20: gather(): 2 is a ROOT, 0 has two above it", x.gather(), 0);
        due("23: count(4)", x.count(4), 4);
        due("22: below(4)", x.below(4), 2);
        x.step(2, 300);
        due("20: gather(): TASK 2 ENDED, its ROOT stays", x.gather(), 0);
        x.step(0, 300);
        due("18: read(0, 1), by the base of the ROOT", x.read(0, 1), 15);
        due("20: gather(): 0 into 1", x.gather(), 1);
        due("23: count(4)", x.count(4), 1);
    }

    private static void heldByWhoIsNotJoined() {
        BranchCells x = started(of(PUT, 0, FORK, 1, DROP, 0, PUT, 0, FORK, 1, DROP, 0), of(PUT, 5, WRITE, 5));
        x.deep(2000);
        due("23: count(4): all ENDED, none GONE", x.count(4), 5);
        due("23: count(5)", x.count(5), 2);
        due("23: count(3)", x.count(3), 0);
        due("20: gather(): 0 and 1 are ROOTS", x.gather(), 0);
        due("23: count(4)", x.count(4), 5);
    }

    private static void counts() {
        BranchCells x = new BranchCells();
        x.merger();
        add(x, of(PUT, 0, FORK, 1, TO, 1, PUT, 0, FORK, 2, TO, 2, FROM, 1, JOIN, 0, FROM, 2, JOIN, 0), of(PUT, 5, WRITE, 5), of(PUT, 3, 21, 0));
        long[] none = {3, 1, 0, 0, 0, 0, 0, 0, 0, 0};
        counts("ahead of a run", x, none);
        x.start(0);
        counts("at first", x, 3, 1, 1, 1, 1, 0, 1, 0, 0, 1);
        x.step(0, 300);
        counts("0 WAITS", x, 3, 1, 3, 3, 5, 0, 5, 7, 0, 1);
        x.step(1, 300);
        counts("1 ENDED", x, 3, 1, 3, 2, 5, 1, 5, 9, 0, 1);
        x.step(2, 300);
        counts("2 FAILED", x, 3, 1, 3, 1, 5, 1, 5, 11, 0, 1);
        x.step(0, 1);
        counts("1 is GONE", x, 3, 1, 3, 1, 4, 1, 5, 12, 1, 1);
        x.step(0, 300);
        counts("0 FAILED, 2 is GONE", x, 3, 1, 3, 0, 3, 1, 5, 14, 1, 1);
        x.stop();
        counts("behind it", x, none);
    }

    private static void counts(String when, BranchCells x, long... want) {
        for (int what = 0; what < want.length; what++) {
            due("23: " + when + ": count(" + what + ")", x.count(what), want[what]);
        }
    }

    private static long digestOf(BranchCells x, int... kinds) {
        long h = 13;
        for (int what = 0; what <= 9; what++) {
            h = 31 * h + x.count(what);
        }
        for (int cell = 0; cell < 16; cell++) {
            h = 31 * h + (cell < kinds.length ? kinds[cell] : 0);
        }
        for (int task = 0; task < x.count(2); task++) {
            for (int what = 0; what <= 13; what++) {
                h = 31 * h + x.about(task, what);
            }
            h = 31 * (31 * h + x.result(task)) + x.mark(task);
            for (int i = 0; i < x.about(task, 10); i++) {
                h = 31 * h + x.out(task, i);
            }
            for (int cell = 0; cell < 16; cell++) {
                h = 31 * h + x.read(task, cell);
            }
        }
        return h;
    }

    private static void digests() {
        BranchCells x = new BranchCells();
        due("24: digest() of a new one", x.digest(), digestOf(x));
        x.merger();
        x.act(0, 2, 0);
        x.kind(0, 1);
        x.kind(1, 2);
        x.kind(2, 3);
        add(x, of(PUT, 7, TELL, 0, PUT, 5, WRITE, 0, PUT, 0, FORK, 1, JOIN, 0, END, 0), of(PUT, 8, TELL, 0, PUT, 5, WRITE, 2, PUT, 44, END, 0));
        due("24: digest() ahead of a run", x.digest(), digestOf(x, 1, 2, 3));
        x.start(3);
        for (int i = 0; i < 16; i++) {
            due("24: digest() behind " + i + " STEPS", x.digest(), digestOf(x, 1, 2, 3));
            due("24: digest() again", x.digest(), digestOf(x, 1, 2, 3));
            x.drawn(i, 1);
        }
        due("result(0)", x.result(0), 44);
        x.gather();
        due("24: digest() behind gather()", x.digest(), digestOf(x, 1, 2, 3));
        x.stop();
        due("24: digest() behind stop()", x.digest(), digestOf(x, 1, 2, 3));
    }

    public static void main(String[] args) {
        kinds();
        joinsWriteWhatWasWritten();
        segmentsBetween();
        versions();
        gathers();
        gathersAboveRoot();
        keepsRoots();
        heldByWhoIsNotJoined();
        counts();
        digests();
        System.out.println(wrong == 0 ? "all answers are as due" : wrong + " answers are not as due");
        if (wrong != 0) {
            System.exit(1);
        }
    }
}
