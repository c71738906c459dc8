/** Promises 9 to 19: runs, FORKS and JOINS, schedules and what is told about a TASK. */
public final class RunsTest {
    private static int wrong = 0;
    private static final int PUT = 0, READ = 1, WRITE = 2, ADD = 5, DIV = 8, GO = 12, FROM = 14, TO = 15, DROP = 16;
    private static final int FORK = 17, JOIN = 18, TELL = 19, END = 20, FAIL = 21;
    private static final int BAD = BranchCells.BAD, NO = BranchCells.NO, NONE = BranchCells.NONE;
    private static final int[] WRONG_NUMBERS = {-1, Integer.MIN_VALUE, Integer.MAX_VALUE};

    private static void due(String call, long got, long want) {
        if (got != want) {
            wrong++;
            System.out.println(call + " answered " + got + ", due is " + want);
        }
    }

    private static BranchCells made(int[]... blocks) {
        BranchCells x = new BranchCells();
        for (int[] codes : blocks) {
            int block = x.block();
            for (int i = 0; i + 1 < codes.length; i += 2) {
                due("code(" + block + ", " + codes[i] + ", " + codes[i + 1] + ")", x.code(block, codes[i], codes[i + 1]), i / 2 + 1);
            }
        }
        return x;
    }

    private static BranchCells started(long v, int[]... blocks) {
        BranchCells x = made(blocks);
        due("start", x.start(v), 1);
        return x;
    }

    private static int[] of(int... codes) {
        return codes;
    }

    private static void abouts(String what, BranchCells x, int task, int... want) {
        for (int i = 0; i < want.length; i++) {
            due(what + ": about(" + task + ", " + i + ")", x.about(task, i), want[i]);
        }
    }

    private static void starts() {
        BranchCells x = new BranchCells();
        due("9: start without a BLOCK", x.start(1), NO);
        due("9: count(9)", x.count(9), 0);
        x.block();
        x.merger();
        x.kind(15, 3);
        due("9: start with a MERGER that is not RIGHT", x.start(1), NO);
        due("9: count(9)", x.count(9), 0);
        x.act(0, 1, 0);
        due("9: start with one that is", x.start(1), 1);
        due("9: count(9)", x.count(9), 1);
        x.merger();
        due("9: start with one not RIGHT that no CELL has", x.start(1), 1);
        BranchCells y = started(5, of(FROM, 0, WRITE, 3, PUT, 1, FORK, 1, FROM, 0, TELL, 0, FROM, 0, END, 0), of(PUT, 1));
        y.deep(2000);
        due("9: count(2)", y.count(2), 2);
        due("9: start again", y.start(6), 1);
        due("9: count(2)", y.count(2), 1);
        due("9: count(6)", y.count(6), 1);
        due("9: count(7)", y.count(7), 0);
        due("9: read(0, 3)", y.read(0, 3), 0);
        due("9: result(0)", y.result(0), 0);
        abouts("9", y, 0, 0, NONE, 0, 0, 0, 0, 0, 0, 0, 0, 0, NONE, 0, NONE);
        due("9: mark(0)", y.mark(0), 17);
        y.step(0, 300);
        due("9: result(0)", y.result(0), 6);
        due("9: out(0, 0)", y.out(0, 0), 6);
    }

    /** TASK 0 tells what is in its SLOTS, fills them, a PILE and a CELL, and FAILS: nothing of it is there the next time. */
    private static void nothingStays() {
        BranchCells x = started(4, of(FROM, 1, TELL, 0, READ, 3, TELL, 0, FROM, 0, TELL, 0, PUT, 8, WRITE, 3, PUT, 9, TO, 1,
            PUT, 0, FORK, 1, TO, 2, PUT, 1, PUT, 2, FAIL, 0), of(FROM, 1, TELL, 0, PUT, 7, TO, 1, PUT, 5, 13, 0, PUT, 6, END, 0));
        for (int run = 0; run < 3; run++) {
            due("9: about(0, 4)", x.about(0, 4), 0);
            for (int i = 0; i < 4; i++) {
                due("9: out(0, " + i + ")", x.out(0, i), 0);
            }
            x.step(0, 11);
            due("9: out(0, 0), SLOT 1", x.out(0, 0), 0);
            due("9: out(0, 1), CELL 3", x.out(0, 1), 0);
            due("9: out(0, 2), v", x.out(0, 2), 4);
            x.step(0, 1);
            due("9: about(1, 0)", x.about(1, 0), 0);
            due("9: out(1, 0)", x.out(1, 0), 0);
            due("9: result(1)", x.result(1), 0);
            x.step(1, 300);
            due("9: out(1, 0), SLOT 1", x.out(1, 0), 0);
            due("9: result(1)", x.result(1), 6);
            x.step(0, 300);
            due("9: about(0, 4)", x.about(0, 4), 102);
            due("9: about(0, 9)", x.about(0, 9), 1);
            due("9: start(4)", x.start(4), 1);
        }
    }

    private static void stops() {
        BranchCells x = started(0, of(PUT, 1, FORK, 1, PUT, 1, FORK, 1), of(PUT, 7, TELL, 0));
        x.deep(2000);
        due("10: stop()", x.stop(), 3);
        due("10: stop()", x.stop(), NO);
        for (int what = 2; what <= 9; what++) {
            due("10: count(" + what + ")", x.count(what), 0);
        }
        due("10: step(0, 1)", x.step(0, 1), BAD);
        due("10: ready(0)", x.ready(0), NONE);
        due("10: deep(1)", x.deep(1), NO);
        due("10: deep(0)", x.deep(0), BAD);
        due("10: drawn(0, 1)", x.drawn(0, 1), NO);
        due("10: drawn(-1, 1)", x.drawn(-1, 1), BAD);
        due("10: about(0, 0)", x.about(0, 0), BAD);
        due("10: result(0)", x.result(0), 0);
        due("10: out(1, 0)", x.out(1, 0), 0);
        due("10: read(0, 0)", x.read(0, 0), 0);
        due("10: mark(0)", x.mark(0), 0);
        due("10: gather()", x.gather(), NO);
        due("10: version(0, 0)", x.version(0, 0), 0);
        due("10: below(0)", x.below(0), BAD);
    }

    private static void steps() {
        BranchCells x = started(0, of(PUT, 1, FORK, 1, JOIN, 0, END, 0), of(PUT, 2, PUT, 3, ADD, 0, END, 0));
        due("11: step(1, 1)", x.step(1, 1), BAD);
        for (int n : WRONG_NUMBERS) {
            due("11: step(" + n + ", 1)", x.step(n, 1), BAD);
            due("11: step(0, " + n + ")", x.step(0, n), BAD);
        }
        due("11: step(0, 0)", x.step(0, 0), BAD);
        due("11: step(0, 301)", x.step(0, 301), BAD);
        due("11: about(0, 3)", x.about(0, 3), 0);
        due("11: step(0, 1)", x.step(0, 1), 0);
        due("11: about(0, 3)", x.about(0, 3), 1);
        due("11: step(0, 1)", x.step(0, 1), 1);
        due("11: step(0, 300) does none", x.step(0, 300), 1);
        due("11: about(0, 3)", x.about(0, 3), 2);
        due("11: step(1, 3)", x.step(1, 3), 0);
        due("11: about(0, 0)", x.about(0, 0), 1);
        due("11: step(1, 1)", x.step(1, 1), 2);
        due("11: about(0, 0)", x.about(0, 0), 0);
        due("11: step(1, 1) does none", x.step(1, 1), 2);
        due("11: about(1, 3)", x.about(1, 3), 4);
        due("11: step(0, 1)", x.step(0, 1), 0);
        due("11: step(1, 1)", x.step(1, 1), 4);
        due("11: step(0, 300)", x.step(0, 300), 2);
        due("11: result(0)", x.result(0), 5);
        BranchCells y = started(0, of(PUT, 1, FAIL, 0));
        due("11: step(0, 2)", y.step(0, 2), 3);
        due("11: step(0, 2) does none", y.step(0, 2), 3);
        due("11: about(0, 3)", y.about(0, 3), 2);
    }

    private static void readies() {
        BranchCells x = started(0, of(PUT, 1, FORK, 1, PUT, 1, FORK, 1, JOIN, 0, DROP, 0, JOIN, 0), of(PUT, 2, PUT, 3));
        due("12: ready(0)", x.ready(0), 0);
        due("12: ready(1)", x.ready(1), NONE);
        x.step(0, 3);
        due("12: ready(0)", x.ready(0), 0);
        due("12: ready(1)", x.ready(1), 1);
        x.step(0, 1);
        due("12: ready(0), 0 WAITS", x.ready(0), 1);
        due("12: ready(1)", x.ready(1), 2);
        due("12: ready(2)", x.ready(2), NONE);
        for (int n : WRONG_NUMBERS) {
            due("12: ready(" + n + ")", x.ready(n), NONE);
        }
        x.step(1, 300);
        due("12: ready(0), 1 ENDED", x.ready(0), 2);
        x.step(2, 300);
        due("12: ready(0), 2 ENDED", x.ready(0), 0);
        due("12: ready(1)", x.ready(1), NONE);
        x.step(0, 300);
        due("12: ready(0), all ENDED", x.ready(0), NONE);
    }

    private static void deeps() {
        int[] first = of(PUT, 1, FORK, 1, PUT, 1, FORK, 1, JOIN, 0, DROP, 0, JOIN, 0, END, 0);
        BranchCells x = started(0, first, of(PUT, 2, PUT, 3, END, 0));
        due("13: deep(0)", x.deep(0), BAD);
        due("13: deep(2001)", x.deep(2001), BAD);
        for (int n : WRONG_NUMBERS) {
            due("13: deep(" + n + ")", x.deep(n), BAD);
        }
        due("13: deep(3)", x.deep(3), 3);
        due("13: about(0, 3)", x.about(0, 3), 2);
        due("13: about(1, 3), the greatest number goes first", x.about(1, 3), 1);
        due("13: deep(4)", x.deep(4), 4);
        due("13: about(1, 0)", x.about(1, 0), 2);
        due("13: about(2, 0)", x.about(2, 0), 0);
        due("13: count(7)", x.count(7), 7);
        due("13: deep(2000)", x.deep(2000), 7);
        due("13: deep(2000)", x.deep(2000), 0);
        due("13: result(0)", x.result(0), 3);
    }

    /** 40 TASKS of 200 STEPS and more have more to do than 2000 STEPS. */
    private static void bounds() {
        int[] wide = of(PUT, 1, FORK, 1, DROP, 0, PUT, 1, FORK, 1, DROP, 0, PUT, 1, FORK, 1, DROP, 0, GO, 9);
        BranchCells x = started(0, wide, of(PUT, 1, FORK, 2, DROP, 0, PUT, 1, FORK, 2, DROP, 0, PUT, 1, FORK, 2, DROP, 0, GO, 9),
            of(PUT, 1, FORK, 3, DROP, 0, PUT, 1, FORK, 3, DROP, 0, PUT, 1, FORK, 3, DROP, 0, GO, 9), of(GO, 0));
        int done = 0;
        for (int i = 0; i < 4; i++) {
            due("13: deep(2000)", x.deep(2000), 2000);
            done += 2000;
        }
        due("13: the last deep(2000)", x.deep(2000), 40 * 201 - done);
        due("13: count(2)", x.count(2), 40);
        due("13: count(6)", x.count(6), 79);
        due("13: count(4)", x.count(4), 79);
        due("13: count(7)", x.count(7), 40 * 201);
        due("13: about(39, 4)", x.about(39, 4), 6);
        due("13: stop()", x.stop(), 40);
        x.start(0);
        due("14: drawn(1, 2000)", x.drawn(1, 2000), 2000);
        due("14: drawn(2, 2000)", x.drawn(2, 2000), 2000);
        due("14: count(2)", x.count(2), 40);
    }

    private static void draws() {
        int[] first = of(PUT, 1, FORK, 1, PUT, 1, FORK, 1, PUT, 1, FORK, 1, JOIN, 0, GO, 6);
        int[] second = of(PUT, 2, PUT, 3, ADD, 0, END, 0);
        int[] seeds = {0, 1, 9, 12345, 65536, Integer.MAX_VALUE};
        for (int seed : seeds) {
            BranchCells y = started(0, first, second);
            long s = seed;
            for (int n = 1; n <= 20; n++) {
                int ready = 0;
                while (y.ready(ready) != NONE) {
                    ready++;
                }
                s = (s * 1103515245L + 12345L) & 0x7fffffffL;
                if (ready > 0) {
                    y.step(y.ready((int) (s / 65536 % ready)), 1);
                }
                BranchCells x = started(0, first, second);
                due("14: drawn(" + seed + ", " + n + ")", x.drawn(seed, n), y.count(7));
                due("14: digest() of it", x.digest(), y.digest());
            }
        }
        BranchCells x = started(0, first, second);
        due("14: drawn(0, 0)", x.drawn(0, 0), BAD);
        due("14: drawn(0, 2001)", x.drawn(0, 2001), BAD);
        for (int n : WRONG_NUMBERS) {
            due("14: drawn(0, " + n + ")", x.drawn(0, n), BAD);
        }
        due("14: drawn(-1, 1)", x.drawn(-1, 1), BAD);
        due("14: drawn(least, 1)", x.drawn(Integer.MIN_VALUE, 1), BAD);
        due("14: count(7)", x.count(7), 0);
    }

    private static void tellsAbout() {
        BranchCells x = started(4, of(PUT, 8, TELL, 0, FROM, 0, FORK, 2, PUT, 3, FORK, 1, JOIN, 0, DROP, 0, JOIN, 0),
            of(FROM, 0, TELL, 0, PUT, 5, FORK, 2, JOIN, 0, END, 0), of(FROM, 0, TELL, 0, FROM, 0, END, 0));
        abouts("15", x, 0, 0, NONE, 0, 0, 0, 0, 0, 0, 0, 0, 0, NONE, 0, NONE);
        x.step(0, 300);
        abouts("15", x, 0, 1, NONE, 0, 6, 0, 0, 6, 0, 2, 2, 1, 2, 3, NONE);
        abouts("15", x, 1, 0, 0, 1, 0, 0, 2, 0, 1, 0, 0, 0, NONE, 2, 0);
        abouts("15", x, 2, 0, 0, 2, 0, 0, 1, 0, 1, 0, 0, 0, NONE, 4, 1);
        x.step(2, 300);
        abouts("15", x, 2, 1, 0, 2, 4, 0, 1, 4, 1, 1, 1, 1, 3, 5, 1);
        abouts("15", x, 3, 0, 2, 1, 0, 0, 2, 0, 2, 0, 0, 0, NONE, 6, 4);
        x.step(3, 300);
        abouts("15", x, 3, 2, 2, 1, 4, 0, 2, 4, 2, 0, 0, 1, NONE, 6, 4);
        x.step(2, 300);
        abouts("15", x, 3, 4, 2, 1, 4, 0, 2, 4, 2, 0, 0, 1, NONE, NONE, 4);
        abouts("15", x, 2, 2, 0, 2, 6, 0, 1, 6, 1, 1, 0, 2, NONE, 5, 1);
        due("17: out(2, 0)", x.out(2, 0), 3);
        due("17: out(2, 1), behind it", x.out(2, 1), 5);
        due("17: out(3, 0), GONE", x.out(3, 0), 5);
        due("16: result(3), GONE", x.result(3), 5);
        due("16: result(2)", x.result(2), 5);
        due("16: result(0), not ENDED", x.result(0), 0);
        due("16: result(4)", x.result(4), 0);
        due("16: result(-1)", x.result(-1), 0);
        due("15: about(4, 0)", x.about(4, 0), BAD);
        due("15: about(0, 14)", x.about(0, 14), BAD);
        for (int n : WRONG_NUMBERS) {
            due("15: about(" + n + ", 0)", x.about(n, 0), BAD);
            due("15: about(0, " + n + ")", x.about(0, n), BAD);
            due("16: result(" + n + ")", x.result(n), 0);
            due("17: out(" + n + ", 0)", x.out(n, 0), 0);
            due("17: out(2, " + n + ")", x.out(2, n), 0);
            due("18: read(" + n + ", 0)", x.read(n, 0), 0);
            due("18: read(0, " + n + ")", x.read(0, n), 0);
            due("19: mark(" + n + ")", x.mark(n), 0);
        }
    }

    private static void reads() {
        BranchCells x = started(0, of(PUT, 5, WRITE, 2, PUT, 1, FORK, 1, PUT, 1, FORK, 2, JOIN, 0),
            of(PUT, 6, WRITE, 2, PUT, 7, END, 0), of(PUT, 8, WRITE, 2, PUT, 0, PUT, 0, DIV, 0));
        due("18: read(0, 2)", x.read(0, 2), 0);
        x.step(0, 300);
        due("18: read(0, 2)", x.read(0, 2), 5);
        due("18: read(1, 2)", x.read(1, 2), 5);
        due("18: read(2, 2)", x.read(2, 2), 5);
        x.step(1, 300);
        x.step(2, 300);
        due("18: read(0, 2)", x.read(0, 2), 5);
        due("18: read(1, 2), ENDED", x.read(1, 2), 6);
        due("18: read(2, 2), FAILED", x.read(2, 2), 8);
        due("18: read(2, 16)", x.read(2, 16), 0);
        due("18: read(3, 2)", x.read(3, 2), 0);
        x.step(0, 300);
        due("18: read(2, 2), GONE", x.read(2, 2), 0);
        due("18: read(0, 2), FAILED by a JOIN: nothing is merged", x.read(0, 2), 5);
        abouts("18", x, 0, 3, NONE, 0, 7, 1, 0, 6, 0, 2, 1, 0, NONE);
        due("18: count(8)", x.count(8), 0);
    }

    private static void forkFailures() {
        BranchCells x = started(0, of(PUT, 1, FORK, 1, DROP, 0, PUT, 1, FORK, 1, DROP, 0, PUT, 1, FORK, 1, DROP, 0, PUT, 1, FORK, 1),
            of(PUT, 1, FORK, 2), of(PUT, 1, FORK, 3), of(PUT, 1, FORK, 7), of());
        x.deep(2000);
        abouts("the fourth FORK", x, 0, 3, NONE, 0, 11, 5, 0, 10, 0, 3, 0, 0, NONE);
        due("three FORKS of three", x.count(2), 1 + 3 + 3 + 3);
        for (int task = 1; task < 10; task++) {
            if (x.about(task, 7) == 3) {
                due("BLOCK 7 is not there", x.about(task, 4), 10);
                due("x is gone", x.about(task, 9), 0);
            }
        }
        x = started(0, of(PUT, 1, FORK, 1), of(PUT, 1, FORK, 2), of(PUT, 1, FORK, 3), of(PUT, 1, FORK, 4), of());
        x.deep(2000);
        abouts("three FORKS below the first", x, 3, 3, 2, 1, 2, 4, 3, 1, 3, 0, 0, 0, NONE);
        due("no further TASK", x.count(2), 4);
        x = started(0, of(PUT, 1, FORK, 2), of());
        due("step(0, 1)", x.step(0, 1), 0);
        due("block() in a run", x.block(), 2);
        due("step(0, 1)", x.step(0, 1), 2);
        abouts("a TASK of a BLOCK without CODES ENDS at once", x, 1, 2, 0, 1, 0, 0, 2, 0, 1, 0, 0, 0, NONE, 2, 0);
    }

    private static void handles() {
        // TASK 1 gives the HANDLE of TASK 2 as its RESULT; TASK 0 JOINS that one too
        BranchCells x = started(0, of(PUT, 1, FORK, 1, JOIN, 0, JOIN, 0, END, 0), of(PUT, 9, FORK, 2, END, 0),
            of(FROM, 0, TELL, 0, FROM, 0, END, 0));
        x.step(0, 300);
        x.step(1, 300);
        due("16: result(1), a HANDLE", x.result(1), 0);
        due("step(0, 300)", x.step(0, 300), 1);
        due("15: about(0, 11)", x.about(0, 11), 2);
        x.deep(2000);
        due("16: result(1), a HANDLE, GONE", x.result(1), 0);
        due("result(0)", x.result(0), 9);
        due("out(0, 0)", x.out(0, 0), 9);
        // TASK 2 gets the HANDLE of TASK 1 in its SLOT 0
        x = started(0, of(PUT, 1, FORK, 1, FORK, 2, JOIN, 0, END, 0), of(PUT, 6, TELL, 0, PUT, 77, END, 0),
            of(FROM, 0, JOIN, 0, END, 0));
        x.step(0, 300);
        due("step(2, 300)", x.step(2, 300), 1);
        due("15: about(2, 11)", x.about(2, 11), 1);
        x.drawn(5, 2000);
        due("result(0)", x.result(0), 77);
        due("about(1, 0)", x.about(1, 0), 4);
        due("about(2, 0)", x.about(2, 0), 4);
        due("out(0, 0)", x.out(0, 0), 6);
    }

    /** A TASK at its 200th STEP does not WAIT: its next STEP FAILS with 6. */
    private static void waitsNotBehind200() {
        BranchCells x = started(0, of(PUT, 1, FORK, 1, TO, 1, PUT, 28, TO, 2, FROM, 2, 13, 12, FROM, 2, PUT, -1, ADD, 0, TO, 2, GO, 5, FROM, 1, JOIN, 0),
            of(GO, 0));
        int state = 0;
        int calls = 0;
        while (state == 0 && calls < 250) {
            state = x.step(0, 1);
            calls++;
        }
        due("6 at the 201st STEP", x.about(0, 4), 6);
        due("its STEPS", x.about(0, 3), 201);
        x = started(0, of(PUT, 1, FORK, 1, GO, 3, JOIN, 0), of(GO, 0));
        due("WAITS", x.step(0, 300), 1);
        due("15: about(0, 3)", x.about(0, 3), 3);
        due("a FAILED one is JOINED", x.deep(2000), 202);
        due("it FAILS with its number", x.about(0, 4), 6);
        due("15: about(0, 3)", x.about(0, 3), 4);
    }

    /** Exactly 200 STEPS are done when the JOIN is next: it is ready, and FAILS. */
    private static void readyAt200() {
        int[] codes = new int[2 * 38];
        int[] loop = of(PUT, 1, FORK, 1, TO, 1, PUT, 25, TO, 2, FROM, 2, 13, 12, FROM, 2, PUT, -1, ADD, 0, TO, 2, GO, 5);
        System.arraycopy(loop, 0, codes, 0, loop.length);
        // 5 + 25 * 7 + 2 = 182; 17 times GO to the next and a FROM make 200
        int at = loop.length;
        for (int i = 0; i < 17; i++) {
            codes[at] = GO;
            codes[at + 1] = at / 2 + 1;
            at += 2;
        }
        codes[at] = FROM;
        codes[at + 1] = 1;
        codes[at + 2] = JOIN;
        BranchCells x = started(0, java.util.Arrays.copyOf(codes, at + 4), of(GO, 0));
        due("11: step(0, 200)", x.step(0, 200), 0);
        due("15: about(0, 3)", x.about(0, 3), 200);
        due("15: about(0, 6), the JOIN", x.about(0, 6), at / 2 + 1);
        due("15: about(0, 11)", x.about(0, 11), NONE);
        due("12: ready(0)", x.ready(0), 0);
        due("11: step(0, 1)", x.step(0, 1), 3);
        due("15: about(0, 4)", x.about(0, 4), 6);
        due("15: about(0, 9)", x.about(0, 9), 1);
        due("15: about(1, 0)", x.about(1, 0), 0);
    }

    private static void joinedOut() {
        int[] teller = of(FROM, 0, TELL, 0, GO, 0);
        BranchCells x = started(0, of(PUT, 3, TELL, 0, PUT, 9, FORK, 1, JOIN, 0), teller);
        x.deep(2000);
        due("17: about(0, 10), OUT has 60 at most", x.about(0, 10), 60);
        due("17: out(0, 0)", x.out(0, 0), 3);
        due("17: out(0, 1)", x.out(0, 1), 9);
        due("17: out(0, 59)", x.out(0, 59), 9);
        due("17: about(0, 4)", x.about(0, 4), 6);
        due("19: mark(0) has the MARK of a FAILED one too", x.mark(0), markOfJoin(x.mark(1)));
    }

    private static long markOfJoin(long joined) {
        long mark = 17;
        for (int op : of(PUT, TELL, PUT, FORK, JOIN)) {
            mark = 31 * mark + op;
        }
        return 31 * mark + joined;
    }

    public static void main(String[] args) {
        starts();
        nothingStays();
        stops();
        steps();
        readies();
        deeps();
        bounds();
        draws();
        tellsAbout();
        reads();
        forkFailures();
        handles();
        waitsNotBehind200();
        readyAt200();
        joinedOut();
        System.out.println(wrong == 0 ? "all answers are as due" : wrong + " answers are not as due");
        if (wrong != 0) {
            System.exit(1);
        }
    }
}
