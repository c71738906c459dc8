/**
 * The sentences of the document that name a boundary case of SEGMENTS, of what a JOIN brings together and of TO GATHER
 * (Terms; promises 20 to 24), a test for each; the words of the document stand ahead of its calls.
 */
public final class SegmentEdgesTest {
    private static int wrong = 0;
    private static String words = "";
    private static final int PUT = 0, READ = 1, WRITE = 2, ADD = 5, MUL = 7, OR = 11, FROM = 14, TO = 15, DROP = 16;
    private static final int FORK = 17, JOIN = 18, TELL = 19, END = 20, FAIL = 21;
    private static final int BAD = BranchCells.BAD, NO = BranchCells.NO, NONE = BranchCells.NONE;
    private static final int PLAIN = 0, ADDING = 1, BITS = 2;
    private static final long LEAST = Long.MIN_VALUE, MOST = Long.MAX_VALUE;
    private static final int[] OUTSIDE = {-1, Integer.MIN_VALUE, Integer.MAX_VALUE};

    private static void sentence(String ofTheDocument) {
        words = ofTheDocument;
    }

    private static void due(String call, long got, long want) {
        if (got != want) {
            wrong++;
            System.out.println("\"" + words + "\": " + call + " answered " + got + ", due is " + want);
        }
    }

    private static int[] of(int... codes) {
        return codes;
    }

    private static int[] joined(int[]... parts) {
        int length = 0;
        for (int[] part : parts) {
            length += part.length;
        }
        int[] all = new int[length];
        int at = 0;
        for (int[] part : parts) {
            System.arraycopy(part, 0, all, at, part.length);
            at += part.length;
        }
        return all;
    }

    /** Codes that put a long, of which a CODE can have 32 bits alone. */
    private static int[] puts(long v) {
        int low = (int) v;
        return of(PUT, (int) (v >> 32), PUT, 65536, MUL, 0, PUT, 65536, MUL, 0, PUT, low >>> 16, PUT, 65536, MUL, 0, OR, 0,
            PUT, low & 65535, OR, 0);
    }

    private static void add(BranchCells x, int[]... blocks) {
        for (int[] codes : blocks) {
            int block = x.block();
            for (int i = 0; i + 1 < codes.length; i += 2) {
                due("code(" + block + ", " + codes[i] + ", " + codes[i + 1] + ")", x.code(block, codes[i], codes[i + 1]), i / 2 + 1);
            }
        }
    }

    private static BranchCells started(int[]... blocks) {
        BranchCells x = new BranchCells();
        add(x, blocks);
        due("start(0)", x.start(0), 1);
        return x;
    }

    private static BranchCells ran(int[]... blocks) {
        BranchCells x = started(blocks);
        x.deep(2000);
        return x;
    }

    // ---- what is read and written

    private static void readsBelow() {
        sentence("READS: the VERSION in the PRESENT one, else in the one below, and so on; else 0");
        BranchCells x = ran(of(PUT, 1, WRITE, 0, PUT, 2, WRITE, 1, PUT, 3, WRITE, 15, PUT, 0, FORK, 1, DROP, 0),
            of(PUT, 4, WRITE, 1, PUT, 0, FORK, 2, DROP, 0), of(PUT, 0, WRITE, 15, PUT, 0, FORK, 3), of(PUT, 7, WRITE, 2));
        due("read(3, 0), three below", x.read(3, 0), 1);
        due("read(3, 1), two below", x.read(3, 1), 4);
        due("read(3, 2), in the PRESENT one", x.read(3, 2), 7);
        due("read(3, 15), a 0 hides the 3 below it", x.read(3, 15), 0);
        due("read(3, 14), nowhere", x.read(3, 14), 0);
        due("read(0, 15)", x.read(0, 15), 3);
    }

    private static void writesAbove() {
        sentence("WRITES: its VERSION in the PRESENT one");
        BranchCells x = started(of(PUT, 1, WRITE, 0, PUT, 0, FORK, 1, PUT, 2, WRITE, 0), of(PUT, 3, WRITE, 0, PUT, 4, WRITE, 0));
        x.deep(2000);
        due("version(0, 0)", x.version(0, 0), 1);
        due("version(1, 0)", x.version(1, 0), 2);
        due("version(2, 0)", x.version(2, 0), 4);
        due("count(5)", x.count(5), 3);
        sentence("VERSIONS: values of CELLS, of each one at most");
        x = ran(of(PUT, 1, WRITE, 0, PUT, 2, WRITE, 0, PUT, 3, WRITE, 0));
        due("count(5), one CELL WRITTEN thrice", x.count(5), 1);
        due("version(0, 0), the last", x.version(0, 0), 3);
    }

    private static void allCells() {
        sentence("CELLS 0 .. 15 hold longs");
        BranchCells x = new BranchCells();
        int[] first = of();
        int[] second = of();
        for (int cell = 0; cell < 16; cell++) {
            first = joined(first, of(PUT, 100 + cell, WRITE, cell));
            second = joined(second, of(PUT, 200 + cell, WRITE, cell));
        }
        add(x, joined(first, of(PUT, 0, FORK, 1, JOIN, 0)), second);
        x.start(0);
        x.step(0, 300);
        due("count(5)", x.count(5), 16);
        x.step(1, 300);
        due("count(5)", x.count(5), 32);
        x.step(0, 300);
        due("count(8)", x.count(8), 16);
        due("gather()", x.gather(), 16);
        for (int cell = 0; cell < 16; cell++) {
            due("version(1, " + cell + ")", x.version(1, cell), 200 + cell);
        }
        due("count(5)", x.count(5), 16);
    }

    private static void forks() {
        sentence("TASK 0 begins with SEGMENT 0, its ROOT being NONE");
        BranchCells x = started(of(PUT, 0, FORK, 1, PUT, 0, FORK, 1), of(PUT, 0, FORK, 2), of(PUT, 1));
        due("about(0, 12)", x.about(0, 12), 0);
        due("about(0, 13)", x.about(0, 13), NONE);
        due("count(6)", x.count(6), 1);
        sentence("FORK: two new SEGMENTS lie above the PRESENT one, p: the first is PRESENT for the TASK then, the second for the new one");
        x.step(0, 2);
        due("about(0, 12)", x.about(0, 12), 1);
        due("about(1, 12)", x.about(1, 12), 2);
        due("about(1, 13)", x.about(1, 13), 0);
        x.step(1, 2);
        due("about(1, 12)", x.about(1, 12), 3);
        due("about(2, 12)", x.about(2, 12), 4);
        due("about(2, 13)", x.about(2, 13), 2);
        due("about(1, 13), its ROOT stays", x.about(1, 13), 0);
        x.step(0, 2);
        due("about(0, 12)", x.about(0, 12), 5);
        due("about(3, 12)", x.about(3, 12), 6);
        due("about(3, 13)", x.about(3, 13), 1);
        int[] below = {NONE, 0, 0, 2, 2, 1, 1};
        for (int s = 0; s < 7; s++) {
            due("below(" + s + ")", x.below(s), below[s]);
        }
        due("count(6)", x.count(6), 7);
    }

    // ---- what a JOIN brings together

    /** What CELL 15 has when base was WRITTEN, then theirs by the JOINED one and ours by the JOINING one. */
    private static long merged(int kind, long base, long ours, long theirs, int... acts) {
        BranchCells x = new BranchCells();
        for (int m = 0; m <= kind - 3; m++) {
            x.merger();
        }
        for (int act : acts) {
            x.act(kind - 3, act, 0);
        }
        x.kind(15, kind);
        add(x, joined(puts(base), of(WRITE, 15, PUT, 0, FORK, 1), puts(ours), of(WRITE, 15, JOIN, 0)),
            joined(puts(theirs), of(WRITE, 15)));
        due("start(0)", x.start(0), 1);
        x.deep(2000);
        due("about(0, 0)", x.about(0, 0), 2);
        return x.read(0, 15);
    }

    private static void kinds() {
        sentence("PLAIN theirs");
        due("of 1, 2, least", merged(PLAIN, 1, 2, LEAST), LEAST);
        due("of 1, 2, 1: theirs, though it is base", merged(PLAIN, 1, 2, 1), 1);
        sentence("ADDING ours + theirs - base");
        due("of 10, 13, 15", merged(ADDING, 10, 13, 15), 18);
        due("most + 1 - 0 wraps", merged(ADDING, 0, MOST, 1), LEAST);
        due("0 + 0 - least wraps", merged(ADDING, LEAST, 0, 0), LEAST);
        due("least + least - most wraps", merged(ADDING, MOST, LEAST, LEAST), -MOST);
        due("most + most - most", merged(ADDING, MOST, MOST, MOST), MOST);
        sentence("BITS: ours, with the bits that theirs has and base has not, without those that base has and theirs has not");
        due("all eight of three bits", merged(BITS, 0b11110000, 0b11001100, 0b10101010), 0b10001110);
        due("the highest comes", merged(BITS, 0, 0, LEAST), LEAST);
        due("the highest goes", merged(BITS, LEAST, -1, 0), MOST);
        due("the highest stays ours", merged(BITS, LEAST, 5, LEAST), 5);
        due("all come", merged(BITS, 0, 0, -1), -1);
        due("all go", merged(BITS, -1, -1, 0), 0);
        due("none goes that ours has not", merged(BITS, -1, 0, 0), 0);
        sentence("else what the MERGER tells");
        for (int m = 0; m < 4; m++) {
            due("MERGER " + m + ", base", merged(3 + m, LEAST, 5, MOST, 0), LEAST);
            due("MERGER " + m + ", ours", merged(3 + m, LEAST, 5, MOST, 1), 5);
            due("MERGER " + m + ", theirs", merged(3 + m, LEAST, 5, MOST, 2), MOST);
            due("MERGER " + m + ", ours + theirs wraps", merged(3 + m, 0, 1, MOST, 1, 2, 4), LEAST);
        }
    }

    private static void whichCells() {
        sentence("for each CELL that has a VERSION in t's PRESENT SEGMENT or one below it, but above t's ROOT");
        BranchCells x = ran(of(PUT, 1, WRITE, 0, PUT, 0, FORK, 1, JOIN, 0), of(READ, 0, DROP, 0));
        due("none, count(8)", x.count(8), 0);
        due("none, version(1, 0)", x.version(1, 0), 0);
        due("none, count(5)", x.count(5), 1);
        x = ran(of(PUT, 1, WRITE, 0, PUT, 0, FORK, 1, JOIN, 0), of(PUT, 1, WRITE, 0, PUT, 0, WRITE, 15));
        due("WRITTEN as it was, count(8)", x.count(8), 2);
        due("it WRITES, count(5)", x.count(5), 3);
        due("version(1, 0)", x.version(1, 0), 1);
        x = ran(of(PUT, 0, FORK, 1, JOIN, 0), of(PUT, 6, WRITE, 0, PUT, 0, FORK, 2, DROP, 0, PUT, 7, WRITE, 15), of(PUT, 8, WRITE, 7));
        due("one below the PRESENT one, read(0, 0)", x.read(0, 0), 6);
        due("the PRESENT one, read(0, 15)", x.read(0, 15), 7);
        due("another branch, read(0, 7)", x.read(0, 7), 0);
        due("count(8)", x.count(8), 2);
        x = ran(of(PUT, 0, FORK, 1, JOIN, 0), of(PUT, 6, WRITE, 0, PUT, 0, FORK, 2, DROP, 0, PUT, 7, WRITE, 0), of(PUT, 1));
        due("in both, count(8)", x.count(8), 1);
        due("in both, read(0, 0)", x.read(0, 0), 7);
    }

    private static void whoReads() {
        sentence("base being what is READ from the ROOT on, theirs what t READS, ours what the TASK READS");
        BranchCells x = new BranchCells();
        x.kind(0, ADDING);
        // TASK 2 adds 100 to the 7 that TASK 1 made of the 5; TASK 0, which JOINS both, had 5 and made it 6
        add(x, of(PUT, 5, WRITE, 0, PUT, 0, FORK, 1, PUT, 6, WRITE, 0, JOIN, 0, JOIN, 0), of(PUT, 7, WRITE, 0, PUT, 0, FORK, 2, END, 0),
            of(READ, 0, PUT, 100, ADD, 0, WRITE, 0));
        x.start(0);
        x.deep(2000);
        due("read(0, 0)", x.read(0, 0), 6 + 2 + 100);
        x = new BranchCells();
        x.kind(0, ADDING);
        add(x, of(PUT, 5, WRITE, 0, PUT, 0, FORK, 1, DROP, 0, PUT, 0, FORK, 1, JOIN, 0), of(PUT, 7, WRITE, 0));
        x.start(0);
        x.deep(2000);
        due("base lies below the ROOT, ours too, read(0, 0)", x.read(0, 0), 7);
        x = new BranchCells();
        x.kind(0, ADDING);
        add(x, of(PUT, 0, FORK, 1, JOIN, 0), of(PUT, 7, WRITE, 0));
        x.start(0);
        x.deep(2000);
        due("base and ours nowhere, read(0, 0)", x.read(0, 0), 7);
    }

    private static void resultIsPut() {
        sentence("Then t's RESULT is put on the PILE");
        BranchCells x = ran(of(PUT, 0, FORK, 1, JOIN, 0, END, 0), joined(puts(LEAST), of(END, 0)));
        due("result(0)", x.result(0), LEAST);
        x = ran(of(PUT, 0, FORK, 1, JOIN, 0, END, 0), of(PUT, 5));
        due("behind the last CODE: 0", x.result(0), 0);
        x = ran(of(PUT, 0, FORK, 1, JOIN, 0, JOIN, 0, END, 0), of(PUT, 0, FORK, 2, END, 0), of(PUT, 31, END, 0));
        due("a HANDLE, which can be JOINED", x.result(0), 31);
        due("about(2, 0)", x.about(2, 0), 4);
        sentence("JOIN of t: t is GONE then");
        x = started(of(PUT, 0, FORK, 1, JOIN, 0), of(PUT, 0, FORK, 2, END, 0), of(PUT, 1));
        x.step(0, 300);
        x.step(1, 300);
        due("about(1, 0), not yet", x.about(1, 0), 2);
        x.step(0, 1);
        due("about(1, 0)", x.about(1, 0), 4);
        due("about(2, 0), what it FORKED is not", x.about(2, 0), 0);
        due("step(2, 300)", x.step(2, 300), 2);
    }

    // ---- what is held and gathered

    private static void held() {
        sentence("HELD are the PRESENT SEGMENTS of all TASKS that are not GONE, and all below them");
        BranchCells x = started(of(PUT, 0, FORK, 1, TO, 1, PUT, 0, FORK, 2, TO, 2, FROM, 1, JOIN, 0, FROM, 2, JOIN, 0),
            of(PUT, 5, WRITE, 0), of(PUT, 6, WRITE, 0, PUT, 1, FAIL, 0));
        due("count(4), at first", x.count(4), 1);
        x.step(0, 300);
        due("count(4), 0 to 4", x.count(4), 5);
        x.step(1, 300);
        x.step(2, 300);
        due("count(4), ENDED and FAILED ones hold", x.count(4), 5);
        due("version(2, 0)", x.version(2, 0), 5);
        x.step(0, 1);
        due("count(4), 1 is GONE", x.count(4), 4);
        due("version(2, 0)", x.version(2, 0), 0);
        due("below(2)", x.below(2), BAD);
        due("version(4, 0)", x.version(4, 0), 6);
        x.step(0, 300);
        due("about(0, 0), it FAILED", x.about(0, 0), 3);
        due("count(4), 2 is GONE", x.count(4), 3);
        due("below(4)", x.below(4), BAD);
        due("count(6), they came all the same", x.count(6), 5);
    }

    /** A chain: SEGMENTS 0, 1, 3, 5 below one another, TASK 0 in 5; the JOINED ones' are HELD no more. */
    private static BranchCells chain() {
        int[] round = of(PUT, 0, FORK, 1, JOIN, 0, DROP, 0);
        return ran(joined(of(PUT, 1, WRITE, 0, PUT, 9, WRITE, 15), round, of(PUT, 2, WRITE, 0), round,
            of(PUT, 0, WRITE, 1), round, of(PUT, 4, WRITE, 0)), of());
    }

    private static void gathersChain() {
        sentence("TO GATHER: how many VERSIONS fewer there are");
        BranchCells x = chain();
        due("count(4)", x.count(4), 4);
        due("count(5)", x.count(5), 5);
        due("gather(), 0 to 5", x.gather(), 2);
        due("count(5)", x.count(5), 3);
        sentence("again and again till there is none");
        due("count(4)", x.count(4), 1);
        due("gather()", x.gather(), 0);
        sentence("those of its VERSIONS that this one has not go there, and it is no more");
        due("version(5, 0), its own", x.version(5, 0), 4);
        due("version(5, 1), a 0", x.version(5, 1), 0);
        due("version(5, 15), from SEGMENT 0", x.version(5, 15), 9);
        for (int s : of(0, 1, 3)) {
            due("below(" + s + ")", x.below(s), BAD);
            due("version(" + s + ", 0)", x.version(s, 0), 0);
        }
        sentence("(what lies above it lies above what was below it then)");
        due("below(5)", x.below(5), NONE);
        due("about(0, 12)", x.about(0, 12), 5);
        due("count(6)", x.count(6), 7);
        sentence("TO GATHER: how many VERSIONS fewer there are");
        x = ran(of(PUT, 1, WRITE, 0, PUT, 0, FORK, 1, JOIN, 0, PUT, 2, WRITE, 1), of());
        due("gather(), none is lost though a SEGMENT is", x.gather(), 0);
        due("count(4)", x.count(4), 1);
        due("count(5)", x.count(5), 2);
        due("version(1, 0)", x.version(1, 0), 1);
        x = ran(of(PUT, 0, WRITE, 0, PUT, 0, FORK, 1, JOIN, 0, PUT, 0, WRITE, 0), of());
        due("gather(), a 0 is a VERSION", x.gather(), 1);
    }

    private static void gathersNothing() {
        sentence("gather: NO: there is no run");
        BranchCells x = new BranchCells();
        due("gather()", x.gather(), NO);
        add(x, of(PUT, 1, WRITE, 0));
        due("gather()", x.gather(), NO);
        x.start(0);
        sentence("one that is PRESENT for no TASK that is not GONE");
        due("gather(), one SEGMENT", x.gather(), 0);
        due("count(4)", x.count(4), 1);
        x.deep(2000);
        due("gather(), it ENDED", x.gather(), 0);
        due("count(4)", x.count(4), 1);
        due("version(0, 0)", x.version(0, 0), 1);
        x.stop();
        sentence("gather: NO: there is no run");
        due("gather() behind stop()", x.gather(), NO);
    }

    private static void keepsRoots() {
        sentence("the ROOT of none such");
        // TASK 1 ENDS with the HANDLE of TASK 2 and is JOINED: SEGMENT 2 is TASK 2's ROOT, with just 4 above it
        BranchCells x = started(of(PUT, 1, WRITE, 0, PUT, 0, FORK, 1, JOIN, 0, JOIN, 0), of(PUT, 2, WRITE, 0, PUT, 0, FORK, 2, END, 0),
            of(PUT, 3, WRITE, 0, PUT, 4, FAIL, 0));
        x.step(0, 300);
        x.step(1, 300);
        x.step(0, 300);
        due("about(1, 0)", x.about(1, 0), 4);
        x.step(2, 2);
        due("gather(), its TASK is ready", x.gather(), 0);
        due("below(4)", x.below(4), 2);
        x.step(2, 300);
        due("gather(), its TASK FAILED", x.gather(), 0);
        due("below(4)", x.below(4), 2);
        due("about(2, 13)", x.about(2, 13), 2);
        x.step(0, 300);
        due("gather(), its TASK is GONE: 0 into 1", x.gather(), 1);
        due("count(4)", x.count(4), 1);
        due("about(2, 13), as it was", x.about(2, 13), 2);
    }

    private static void keepsForked() {
        sentence("and has just one HELD one directly above it");
        // TASK 1 is JOINED, TASK 2, which it FORKED, is not: SEGMENT 0 has TASK 0's 1 and TASK 2's ROOT 2 above it
        BranchCells x = started(of(PUT, 1, WRITE, 0, PUT, 0, FORK, 1, JOIN, 0, JOIN, 0), of(PUT, 0, FORK, 2, END, 0), of(PUT, 1));
        x.step(0, 300);
        x.step(1, 300);
        x.step(0, 300);
        due("below(1)", x.below(1), 0);
        due("below(2)", x.below(2), 0);
        due("gather(), 0 is no ROOT any more, but has two", x.gather(), 0);
        due("below(1)", x.below(1), 0);
        due("below(2)", x.below(2), 0);
        due("below(0)", x.below(0), NONE);
        x.step(2, 300);
        x.step(0, 300);
        due("count(4), 0 and 1", x.count(4), 2);
        x.gather();
        due("below(0), it had one", x.below(0), BAD);
        due("below(1)", x.below(1), NONE);
    }

    private static void gathersIntoMiddle() {
        sentence("(what lies above it lies above what was below it then)");
        // SEGMENT 2 of TASK 1 lies between 0, its ROOT, and 3, its PRESENT one
        BranchCells x = started(of(PUT, 1, WRITE, 0, PUT, 0, FORK, 1, JOIN, 0),
            of(PUT, 2, WRITE, 0, PUT, 3, WRITE, 1, PUT, 0, FORK, 2, JOIN, 0, PUT, 4, WRITE, 0), of());
        x.step(0, 300);
        x.step(1, 300);
        due("below(3)", x.below(3), 2);
        due("gather()", x.gather(), 1);
        due("below(3)", x.below(3), 0);
        due("below(2)", x.below(2), BAD);
        due("read(1, 0)", x.read(1, 0), 4);
        due("read(1, 1)", x.read(1, 1), 3);
        x.step(0, 300);
        due("count(8), as without gather()", x.count(8), 2);
        due("read(0, 0)", x.read(0, 0), 4);
        due("read(0, 1)", x.read(0, 1), 3);
        sentence("the ROOT of none such");
        due("gather(), 0 was the ROOT of one that is GONE now", x.gather(), 1);
        due("below(1)", x.below(1), NONE);
        due("below(0)", x.below(0), BAD);
    }

    // ---- promises 21 to 24

    private static void versions() {
        sentence("The VERSION of a CELL in a SEGMENT that is HELD. BAD, none: 0.");
        BranchCells x = ran(joined(puts(LEAST), of(WRITE, 0, PUT, 7, WRITE, 15, PUT, 0, FORK, 1, DROP, 0)), of(PUT, 1));
        due("version(0, 0)", x.version(0, 0), LEAST);
        due("version(0, 15)", x.version(0, 15), 7);
        due("version(0, 1), none", x.version(0, 1), 0);
        due("version(1, 0), none, though it is READ", x.version(1, 0), 0);
        due("version(0, 16)", x.version(0, 16), 0);
        due("version(3, 0), it has not come", x.version(3, 0), 0);
        due("version(79, 0)", x.version(79, 0), 0);
        for (int n : OUTSIDE) {
            due("version(" + n + ", 0)", x.version(n, 0), 0);
            due("version(0, " + n + ")", x.version(0, n), 0);
        }
        x.stop();
        due("version(0, 15) without a run", x.version(0, 15), 0);
    }

    private static void belows() {
        sentence("The SEGMENT below one that is HELD; NONE. BAD: it is not HELD.");
        BranchCells x = ran(of(PUT, 0, FORK, 1, JOIN, 0), of(PUT, 1));
        due("below(0)", x.below(0), NONE);
        due("below(1)", x.below(1), 0);
        due("below(2), HELD no more", x.below(2), BAD);
        due("below(3), it has not come", x.below(3), BAD);
        due("below(79)", x.below(79), BAD);
        for (int n : OUTSIDE) {
            due("below(" + n + ")", x.below(n), BAD);
        }
        x.stop();
        due("below(0) without a run", x.below(0), BAD);
    }

    private static void counts() {
        sentence("count: BAD.");
        BranchCells x = started(of(PUT, 0, FORK, 1), of(PUT, 3, WRITE, 3));
        for (int what : of(-1, 10, Integer.MIN_VALUE, Integer.MAX_VALUE)) {
            due("count(" + what + ")", x.count(what), BAD);
        }
        sentence("9 whether there is a run (1, 0) (2 to 8: 0 without one)");
        x.merger();
        x.deep(2000);
        due("count(9)", x.count(9), 1);
        x.stop();
        for (int what = 2; what <= 9; what++) {
            due("count(" + what + ")", x.count(what), 0);
        }
        due("count(0), BLOCKS stay", x.count(0), 2);
        due("count(1), MERGERS stay", x.count(1), 1);
        sentence("3 of these that are neither ENDED, FAILED nor GONE");
        x = started(of(PUT, 0, FORK, 1, TO, 1, PUT, 0, FORK, 2, JOIN, 0, FROM, 1, JOIN, 0), of(PUT, 1, FAIL, 0), of(PUT, 1));
        due("count(3)", x.count(3), 1);
        x.step(0, 300);
        due("count(3), one of three WAITS", x.count(3), 3);
        x.step(1, 300);
        due("count(3), one FAILED", x.count(3), 2);
        x.step(2, 300);
        due("count(3), one ENDED", x.count(3), 1);
        x.step(0, 1);
        due("count(3), one is GONE", x.count(3), 1);
        x.step(0, 300);
        due("count(3), none", x.count(3), 0);
        due("count(2)", x.count(2), 3);
    }

    private static void mostSegments() {
        sentence("6 SEGMENTS that came ever");
        int[] three = of(PUT, 0, FORK, 1, PUT, 0, FORK, 1, PUT, 0, FORK, 1);
        BranchCells x = started(three, of(PUT, 0, FORK, 2, PUT, 0, FORK, 2, PUT, 0, FORK, 2),
            of(PUT, 0, FORK, 3, PUT, 0, FORK, 3, PUT, 0, FORK, 3), of(PUT, 5, WRITE, 15, PUT, 0, FORK, 3));
        x.deep(2000);
        due("count(2), as many TASKS as can be", x.count(2), 40);
        due("count(6), one and two a FORK", x.count(6), 79);
        due("count(4)", x.count(4), 79);
        due("count(5)", x.count(5), 27);
        due("gather(), all are ROOTS or PRESENT", x.gather(), 0);
        int last = x.about(39, 12);
        due("version of the last TASK's", x.version(last, 15), 5);
        due("below(78)", x.below(78) >= 0 ? 1 : 0, 1);
        due("below(79)", x.below(79), BAD);
    }

    private static void digests() {
        sentence("h = 13; then h = 31 h + v for each v: count(0) to count(9); KINDS; of each TASK ..");
        BranchCells x = new BranchCells();
        long h = 13;
        for (int i = 0; i < 26; i++) {
            h *= 31;
        }
        due("digest(), all is 0", x.digest(), h);
        x.kind(15, 2);
        due("digest(), the last KIND is 2", x.digest(), h + 2);
        x.kind(0, 1);
        long of0 = 1;
        for (int i = 0; i < 15; i++) {
            of0 *= 31;
        }
        due("digest(), the first KIND is 1", x.digest(), h + 2 + of0);
        sentence("about(.., 0) to (.., 13), result(), mark(), OUT, read() of CELLS 0 .. 15");
        x = ran(joined(puts(MOST), of(TELL, 0, PUT, -3, WRITE, 15), puts(LEAST + 5), of(END, 0)));
        due("digest(), one TASK", x.digest(), digestOf(x));
        BranchCells y = started(of());
        due("digest(), OUT is empty", y.digest(), digestOf(y));
        y = ran(of(PUT, 1, TELL, 0, PUT, 0, FORK, 1, JOIN, 0), of(PUT, 2, WRITE, 2, PUT, 3, TELL, 0));
        due("digest(), a TASK is GONE", y.digest(), digestOf(y));
    }

    private static long digestOf(BranchCells x) {
        long h = 13;
        for (int what = 0; what <= 9; what++) {
            h = 31 * h + x.count(what);
        }
        for (int cell = 0; cell < 16; cell++) {
            h = 31 * h;
        }
        for (int task = 0; task < x.count(2); task++) {
            for (int what = 0; what <= 13; what++) {
                h = 31 * h + x.about(task, what);
            }
            h = 31 * (31 * h + x.result(task)) + x.mark(task);
            for (int i = 0; i < x.about(task, 10); i++) {
                h = 31 * h + x.out(task, i);
            }
            for (int cell = 0; cell < 16; cell++) {
                h = 31 * h + x.read(task, cell);
            }
        }
        return h;
    }

    public static void main(String[] args) {
        readsBelow();
        writesAbove();
        allCells();
        forks();
        kinds();
        whichCells();
        whoReads();
        resultIsPut();
        held();
        gathersChain();
        gathersNothing();
        keepsRoots();
        keepsForked();
        gathersIntoMiddle();
        versions();
        belows();
        counts();
        mostSegments();
        digests();
        System.out.println(wrong == 0 ? "all answers are as due" : wrong + " answers are not as due");
        if (wrong != 0) {
            System.exit(1);
        }
    }
}
