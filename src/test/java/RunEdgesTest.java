import java.util.function.Consumer;

/**
 * The sentences of the document that name a boundary case of runs, schedules and of what is told of a TASK (Terms;
 * promises 9 to 19), a test for each; the words of the document stand ahead of its calls.
 */
public final class RunEdgesTest {
    private static int wrong = 0;
    private static String words = "";
    private static final int PUT = 0, READ = 1, WRITE = 2, ADD = 5, GO = 12, GO_ZERO = 13, FROM = 14, TO = 15, DROP = 16;
    private static final int FORK = 17, JOIN = 18, TELL = 19, END = 20, FAIL = 21;
    private static final int BAD = BranchCells.BAD, NO = BranchCells.NO, NONE = BranchCells.NONE;
    private static final int LEAST = Integer.MIN_VALUE, MOST = Integer.MAX_VALUE;

    private static void sentence(String ofTheDocument) {
        words = ofTheDocument;
    }

    private static void due(String call, long got, long want) {
        if (got != want) {
            wrong++;
            System.out.println("\"" + words + "\": " + call + " answered " + got + ", due is " + want);
        }
    }

    private static int[] of(int... codes) {
        return codes;
    }

    private static int[] joined(int[]... parts) {
        int length = 0;
        for (int[] part : parts) {
            length += part.length;
        }
        int[] all = new int[length];
        int at = 0;
        for (int[] part : parts) {
            System.arraycopy(part, 0, all, at, part.length);
            at += part.length;
        }
        return all;
    }

    private static BranchCells made(int[]... blocks) {
        BranchCells x = new BranchCells();
        for (int[] codes : blocks) {
            int block = x.block();
            for (int i = 0; i + 1 < codes.length; i += 2) {
                due("code(" + block + ", " + codes[i] + ", " + codes[i + 1] + ")", x.code(block, codes[i], codes[i + 1]), i / 2 + 1);
            }
        }
        return x;
    }

    private static BranchCells started(long v, int[]... blocks) {
        BranchCells x = made(blocks);
        due("start(" + v + ")", x.start(v), 1);
        return x;
    }

    /** Codes that do exactly so many STEPS behind the given first ones, which they keep on the PILE; SLOT 7 is left 0. */
    private static int[] padded(int steps, int... first) {
        int at = first.length / 2;
        int rest = steps - at - 4;
        int[] loop = of(PUT, rest / 7, TO, 7, FROM, 7, GO_ZERO, at + 9, FROM, 7, PUT, -1, ADD, 0, TO, 7, GO, at + 2);
        int[] fill = new int[2 * (rest % 7)];
        for (int i = 0; i < fill.length; i += 2) {
            fill[i] = GO;
            fill[i + 1] = at + 9 + i / 2 + 1;
        }
        return joined(first, loop, fill);
    }

    /** TASK 0 tells and WRITES, FORKS TASKS 1 (ENDS with 5), 2 (FAILS with 103) and 3 (goes round and round), and JOINS 3. */
    private static BranchCells four() {
        return started(9, of(PUT, 7, TELL, 0, PUT, 6, WRITE, 2, PUT, 0, FORK, 1, TO, 1, PUT, 0, FORK, 2, TO, 2, PUT, 0, FORK, 3,
            JOIN, 0, FROM, 2, JOIN, 0), of(PUT, 5, END, 0), of(PUT, 3, FAIL, 0), of(GO, 0));
    }

    private static long[] wrongTasks(BranchCells x) {
        return new long[] {-1, x.count(2), 40, LEAST, MOST};
    }

    /** Calls that are refused leave all that digest() tells as it was. */
    private static void unchanged(BranchCells x, Consumer<BranchCells> refused) {
        long before = x.digest();
        refused.accept(x);
        due("digest() behind refused calls", x.digest(), before);
    }

    // ---- promises 9 and 10

    private static void startsWithoutBlock() {
        sentence("NO: there is no BLOCK");
        BranchCells x = new BranchCells();
        unchanged(x, y -> due("start(0)", y.start(0), NO));
        due("count(9)", x.count(9), 0);
        x.block();
        due("start(0) with one, which is empty", x.start(0), 1);
    }

    private static void startsWithoutRight() {
        sentence("or the MERGER of a CELL's KIND is not RIGHT");
        for (int cell : of(0, 15)) {
            for (int m = 0; m < 4; m++) {
                BranchCells x = made(of(PUT, 1));
                for (int i = 0; i < 4; i++) {
                    x.merger();
                    x.act(i, 1, 0);
                }
                x.act(m, 2, 0);
                due("start(0), no CELL has MERGER " + m, x.start(0), 1);
                x.stop();
                x.kind(cell, 3 + m);
                unchanged(x, y -> due("start(0), two are left", y.start(0), NO));
                due("count(9)", x.count(9), 0);
                x.act(m, 4, 0);
                due("start(0), one is left", x.start(0), 1);
            }
        }
        BranchCells x = made(of(PUT, 1));
        x.merger();
        x.kind(0, 3);
        due("start(0), the MERGER is empty", x.start(0), NO);
    }

    private static void startsAnew() {
        sentence("A run begins (what was run before goes), v in SLOT 0 of TASK 0: 1.");
        for (long v : new long[] {Long.MIN_VALUE, -1, 0, Long.MAX_VALUE}) {
            BranchCells x = started(v, of(FROM, 0, END, 0));
            x.step(0, 300);
            due("result(0)", x.result(0), v);
        }
        BranchCells x = four();
        long fresh = x.digest();
        x.deep(2000);
        due("start(9) in a run", x.start(9), 1);
        due("digest() is that of a new run", x.digest(), fresh);
        due("about(1, 0)", x.about(1, 0), BAD);
        due("below(1)", x.below(1), BAD);
        due("version(0, 2)", x.version(0, 2), 0);
    }

    /**
     * v = 1: TASK 0 FORKS TASKS that fill their SLOTS, PILES, OUTS and CELLS and END with HANDLES; else it FORKS one that
     * tells what it finds.
     */
    private static BranchCells twoWays() {
        return made(of(FROM, 0, GO_ZERO, 19, PUT, 3, WRITE, 1, PUT, 4, TELL, 0, PUT, 5, TELL, 0, PUT, 6, TO, 6, PUT, 0, FORK, 1, TO, 5,
            PUT, 0, FORK, 2, JOIN, 0, JOIN, 0, FROM, 5, END, 0, FROM, 5, TELL, 0, FROM, 6, TELL, 0, PUT, 0, FORK, 3, TO, 1, PUT, 0, FORK, 3, TO, 2,
            FROM, 1, JOIN, 0, FROM, 2, JOIN, 0, READ, 1, TELL, 0),
            of(PUT, 7, TO, 1, PUT, 8, TELL, 0, PUT, 9, TELL, 0, PUT, 9, WRITE, 1, PUT, 1, FAIL, 0),
            of(PUT, 7, TO, 1, PUT, 8, TELL, 0, PUT, 9, WRITE, 1, PUT, 5, PUT, 0, FORK, 4, TO, 2, FROM, 2, END, 0),
            of(FROM, 1, TELL, 0, FROM, 2, TELL, 0, READ, 1, TELL, 0), of(PUT, 8, WRITE, 1, PUT, 5, TO, 1, PUT, 2, TELL, 0, PUT, 6, END, 0));
    }

    private static void nothingStays() {
        sentence("(what was run before goes)");
        for (int done : of(1, 12, 17, 25, 2000)) {
            for (int way = 0; way <= 1; way++) {
                BranchCells x = twoWays();
                x.start(1 - way);
                x.deep(done);
                x.start(way);
                BranchCells fresh = twoWays();
                fresh.start(way);
                for (int i = 0; i < 12; i++) {
                    due("digest() of the next run", x.digest(), fresh.digest());
                    due("out(0, 0) of the next run", x.out(0, 0), fresh.out(0, 0));
                    due("out(0, 1) of the next run", x.out(0, 1), fresh.out(0, 1));
                    due("out(1, 1) of the next run", x.out(1, 1), fresh.out(1, 1));
                    due("version(0, 1) of the next run", x.version(0, 1), fresh.version(0, 1));
                    due("drawn(i, 3) of the next run", x.drawn(i, 3), fresh.drawn(i, 3));
                }
            }
        }
    }

    private static void stops() {
        sentence("There is no run any more: how many TASKS it had. NO: there is none.");
        due("stop(), no run yet", new BranchCells().stop(), NO);
        BranchCells x = started(0, of());
        due("stop(), one TASK", x.stop(), 1);
        due("stop() again", x.stop(), NO);
        x = four();
        long ahead = made(of()).digest();
        x.deep(2000);
        due("stop(), four TASKS, one of them GONE", x.stop(), 4);
        due("count(2)", x.count(2), 0);
        unchanged(x, y -> due("stop() again", y.stop(), NO));
        x = started(0, of());
        x.stop();
        due("digest() is as ahead of the run", x.digest(), ahead);
        x = started(0, of(PUT, 0, FORK, 1, PUT, 0, FORK, 1, PUT, 0, FORK, 1), of(PUT, 0, FORK, 2, PUT, 0, FORK, 2, PUT, 0, FORK, 2),
            of(PUT, 0, FORK, 3, PUT, 0, FORK, 3, PUT, 0, FORK, 3), of());
        x.deep(2000);
        due("stop(), as many as can be", x.stop(), 40);
    }

    // ---- promise 11

    private static void stepNumbers() {
        sentence("A TASK does up to n STEPS (1 .. 300)");
        BranchCells x = started(0, of(GO, 0));
        unchanged(x, y -> {
            for (int n : of(0, -1, 301, LEAST, MOST)) {
                due("step(0, " + n + ")", y.step(0, n), BAD);
            }
        });
        due("step(0, 1)", x.step(0, 1), 0);
        due("about(0, 3)", x.about(0, 3), 1);
        due("step(0, 199)", x.step(0, 199), 0);
        due("about(0, 3)", x.about(0, 3), 200);
        due("step(0, 300)", x.step(0, 300), 3);
        due("about(0, 3)", x.about(0, 3), 201);
        sentence("step: BAD.");
        BranchCells four = four();
        unchanged(four, y -> {
            for (long task : wrongTasks(y)) {
                due("step(" + task + ", 1)", y.step((int) task, 1), BAD);
            }
        });
        due("step(0, 1) without a run", made(of(GO, 0)).step(0, 1), BAD);
    }

    private static void stepAnswers() {
        sentence("0 there is more to do, 1 it WAITS, 2 it ENDED, 3 it FAILED, 4 it is GONE");
        BranchCells x = four();
        due("step(0, 11)", x.step(0, 11), 0);
        due("step(0, 1)", x.step(0, 1), 1);
        due("step(0, 300), it WAITS", x.step(0, 300), 1);
        due("about(0, 3), no STEP", x.about(0, 3), 12);
        due("step(1, 1)", x.step(1, 1), 0);
        due("step(1, 1)", x.step(1, 1), 2);
        due("step(1, 300), it ENDED", x.step(1, 300), 2);
        due("about(1, 3), no STEP", x.about(1, 3), 2);
        due("step(2, 2)", x.step(2, 2), 3);
        due("step(2, 300), it FAILED", x.step(2, 300), 3);
        due("about(2, 3), no STEP", x.about(2, 3), 2);
        due("step(3, 300)", x.step(3, 300), 3);
        due("step(0, 300)", x.step(0, 300), 3);
        due("step(3, 1), it is GONE", x.step(3, 1), 4);
        due("about(3, 3), no STEP", x.about(3, 3), 201);
    }

    // ---- promise 12

    private static void readyOnes() {
        sentence("The i-th TASK (by numbers, from 0) that is ready .. NONE.");
        BranchCells x = four();
        due("ready(0), TASK 0 alone", x.ready(0), 0);
        due("ready(1)", x.ready(1), NONE);
        for (int i : of(-1, 1, 39, 40, LEAST, MOST)) {
            due("ready(" + i + ")", x.ready(i), NONE);
        }
        x.step(0, 11);
        due("ready(0)", x.ready(0), 0);
        due("ready(1)", x.ready(1), 1);
        due("ready(2)", x.ready(2), 2);
        due("ready(3)", x.ready(3), NONE);
        due("ready(0) without a run", new BranchCells().ready(0), NONE);
        sentence("neither ENDED, FAILED, GONE, nor does it WAIT");
        x.step(0, 1);
        due("0 WAITS, ready(0)", x.ready(0), 1);
        due("0 WAITS, ready(2)", x.ready(2), 3);
        x.step(1, 2);
        due("1 ENDED, ready(0)", x.ready(0), 2);
        x.step(2, 2);
        due("2 FAILED, ready(0)", x.ready(0), 3);
        due("2 FAILED, ready(1)", x.ready(1), NONE);
        x.step(3, 300);
        due("0 WAITS no more, ready(0)", x.ready(0), 0);
        x.step(0, 1);
        due("none is left, ready(0)", x.ready(0), NONE);
    }

    // ---- promises 13 and 14

    private static void deepNumbers() {
        sentence("Up to n STEPS (1 .. 2000)");
        BranchCells x = four();
        unchanged(x, y -> {
            for (int n : of(0, -1, 2001, LEAST, MOST)) {
                due("deep(" + n + ")", y.deep(n), BAD);
            }
        });
        due("deep(1)", x.deep(1), 1);
        due("count(7)", x.count(7), 1);
        due("deep(2000)", x.deep(2000), 12 + 2 + 2 + 201);
        due("deep(2000), none is ready", x.deep(2000), 0);
        due("deep(1), none is ready", x.deep(1), 0);
        sentence("deep: BAD; NO: there is no run.");
        BranchCells none = made(of(GO, 0));
        due("deep(1)", none.deep(1), NO);
        due("deep(2000)", none.deep(2000), NO);
        due("deep(0)", none.deep(0), BAD);
        due("deep(2001)", none.deep(2001), BAD);
    }

    private static void deepOrder() {
        sentence("always the one with the greatest number: how many were done");
        BranchCells x = four();
        due("deep(7)", x.deep(7), 7);
        due("about(1, 3)", x.about(1, 3), 1);
        due("about(0, 3)", x.about(0, 3), 6);
        due("deep(1)", x.deep(1), 1);
        due("about(1, 0), it ENDED", x.about(1, 0), 2);
        due("deep(1)", x.deep(1), 1);
        due("about(0, 3)", x.about(0, 3), 7);
        due("deep(2000), the rest of 13, 2, 2 and 201", x.deep(2000), 218 - 9);
        BranchCells y = started(0, of(PUT, 0, FORK, 1, PUT, 0, FORK, 1, JOIN, 0, DROP, 0, JOIN, 0), of(PUT, 0, FORK, 2, GO, 3, GO, 4), of(GO, 1));
        due("deep(4), TASK 1 FORKED TASK 2", y.deep(4), 4);
        due("about(1, 3)", y.about(1, 3), 2);
        due("deep(1)", y.deep(1), 1);
        due("about(2, 0)", y.about(2, 0), 2);
        due("deep(1), the next greatest", y.deep(1), 1);
        due("about(1, 3)", y.about(1, 3), 3);
    }

    private static void full2000() {
        sentence("Up to n STEPS (1 .. 2000) of TASKS that are ready");
        int[] wide = of(PUT, 0, FORK, 1, DROP, 0, PUT, 0, FORK, 1, DROP, 0, PUT, 0, FORK, 1, DROP, 0, GO, 9);
        int[] wider = of(PUT, 0, FORK, 2, DROP, 0, PUT, 0, FORK, 2, DROP, 0, PUT, 0, FORK, 2, DROP, 0, GO, 9);
        BranchCells x = started(0, wide, wider, of(GO, 0));
        due("deep(2000)", x.deep(2000), 2000);
        due("count(7)", x.count(7), 2000);
        due("deep(2000), the rest of 13 TASKS", x.deep(2000), 13 * 201 - 2000);
        x.start(0);
        due("drawn(0, 2000)", x.drawn(0, 2000), 2000);
        due("count(7)", x.count(7), 2000);
        due("drawn(0, 2000), the rest", x.drawn(0, 2000), 13 * 201 - 2000);
    }

    private static void drawnNumbers() {
        sentence("(s at first: seed, 0 or more)");
        BranchCells x = four();
        unchanged(x, y -> {
            due("drawn(-1, 1)", y.drawn(-1, 1), BAD);
            due("drawn(least, 1)", y.drawn(LEAST, 1), BAD);
        });
        due("drawn(0, 1)", x.drawn(0, 1), 1);
        due("drawn(most, 1)", x.drawn(MOST, 1), 1);
        sentence("drawn: BAD; NO.");
        unchanged(x, y -> {
            for (int n : of(0, -1, 2001, LEAST, MOST)) {
                due("drawn(0, " + n + ")", y.drawn(0, n), BAD);
            }
        });
        BranchCells none = made(of(GO, 0));
        due("drawn(0, 1)", none.drawn(0, 1), NO);
        due("drawn(most, 2000)", none.drawn(MOST, 2000), NO);
        due("drawn(-1, 1)", none.drawn(-1, 1), BAD);
        due("drawn(0, 0)", none.drawn(0, 0), BAD);
        due("drawn(0, 2001)", none.drawn(0, 2001), BAD);
        x.drawn(3, 2000);
        due("drawn(3, 2000), none is ready", x.drawn(3, 2000), 0);
    }

    private static void drawWraps() {
        sentence("s becomes s 1103515245 + 12345, of which the lowest 31 bits stay");
        int[] wide = of(PUT, 0, FORK, 1, PUT, 0, FORK, 1, PUT, 0, FORK, 1, GO, 6);
        for (int seed : of(0, 1, 65535, 65536, 1 << 30, MOST - 1, MOST)) {
            BranchCells x = started(0, wide, of(GO, 0));
            x.step(0, 6);
            long s = seed;
            for (int n = 1; n <= 20; n++) {
                s = Math.floorMod(s * 1103515245L + 12345L, 1L << 31);
                x.step((int) (s / 65536 % 4), 1);
                BranchCells y = started(0, wide, of(GO, 0));
                y.step(0, 6);
                due("drawn(" + seed + ", " + n + ")", y.drawn(seed, n), n);
                due("digest() behind drawn(" + seed + ", " + n + ")", y.digest(), x.digest());
            }
        }
    }

    private static void drawsAmongReadyOnes() {
        sentence("s / 65536, by how many are ready, leaves i: ready(i) does it");
        for (int seed : of(0, 1, 7, 4711)) {
            BranchCells x = four();
            long s = seed;
            for (int n = 1; n <= 30; n++) {
                int ready = 0;
                while (x.ready(ready) != NONE) {
                    ready++;
                }
                s = Math.floorMod(s * 1103515245L + 12345L, 1L << 31);
                x.step(x.ready((int) (s / 65536 % ready)), 1);
                BranchCells y = four();
                due("drawn(" + seed + ", " + n + ")", y.drawn(seed, n), n);
                due("digest() behind drawn(" + seed + ", " + n + ")", y.digest(), x.digest());
            }
        }
    }

    // ---- promise 15

    private static void aboutNumbers() {
        sentence("about: BAD.");
        BranchCells x = four();
        x.step(0, 300);
        for (long task : wrongTasks(x)) {
            due("about(" + task + ", 0)", x.about((int) task, 0), BAD);
        }
        for (int what : of(-1, 14, LEAST, MOST)) {
            due("about(0, " + what + ")", x.about(0, what), BAD);
        }
        due("about(0, 0) without a run", made(of()).about(0, 0), BAD);
        sentence("0 what step() would tell without doing one");
        for (int task = 0; task < 4; task++) {
            for (int i = 0; i < 3; i++) {
                int steps = x.about(task, 3);
                int told = x.about(task, 0);
                due("about(" + task + ", 3)", x.about(task, 3), steps);
                due("step() of one that is not ready", told == 0 ? 0 : x.step(task, 1), told);
                x.step(task, 1);
            }
        }
    }

    private static void aboutFirst() {
        sentence("1 who FORKED it (NONE), 2 the how many-th FORK of that it was (from 1 on; 0)");
        BranchCells x = four();
        x.step(0, 300);
        due("about(0, 1)", x.about(0, 1), NONE);
        due("about(0, 2)", x.about(0, 2), 0);
        for (int task = 1; task <= 3; task++) {
            due("about(" + task + ", 1)", x.about(task, 1), 0);
            due("about(" + task + ", 2)", x.about(task, 2), task);
        }
        sentence("4 by what it FAILED (0: not)");
        x.step(1, 300);
        x.step(2, 300);
        due("about(0, 4), it WAITS", x.about(0, 4), 0);
        due("about(1, 4), it ENDED", x.about(1, 4), 0);
        due("about(2, 4)", x.about(2, 4), 103);
        due("about(3, 4)", x.about(3, 4), 0);
        sentence("11 the TASK for which it WAITS (NONE)");
        due("about(0, 11)", x.about(0, 11), 3);
        due("about(1, 11), it ENDED", x.about(1, 11), NONE);
        due("about(2, 11), it FAILED", x.about(2, 11), NONE);
        due("about(3, 11), it is ready", x.about(3, 11), NONE);
        x.step(3, 300);
        due("about(0, 11), 3 FAILED", x.about(0, 11), NONE);
        sentence("12 its PRESENT SEGMENT (GONE: NONE), 13 its ROOT");
        due("about(0, 12)", x.about(0, 12), 5);
        due("about(0, 13)", x.about(0, 13), NONE);
        due("about(3, 12), it FAILED", x.about(3, 12), 6);
        x.step(0, 300);
        due("about(3, 12), it is GONE", x.about(3, 12), NONE);
        due("about(3, 13)", x.about(3, 13), 3);
        due("about(1, 12), it ENDED", x.about(1, 12), 2);
        due("about(1, 13)", x.about(1, 13), 0);
    }

    // ---- promises 16 to 19

    private static void results() {
        sentence("A TASK's RESULT, if it ENDED (GONE, too); of a HANDLE 0. BAD, else: 0.");
        BranchCells x = started(0, of(PUT, 0, FORK, 1, TO, 1, PUT, 0, FORK, 2, TO, 2, FROM, 1, JOIN, 0, FROM, 2, JOIN, 0, END, 0),
            of(PUT, 5, END, 0), of(PUT, 0, FORK, 1, END, 0));
        x.step(0, 300);
        due("result(0), it WAITS", x.result(0), 0);
        due("result(1), there is more to do", x.result(1), 0);
        x.deep(2000);
        due("result(1), GONE", x.result(1), 5);
        due("result(2), a HANDLE, GONE", x.result(2), 0);
        due("result(0), a HANDLE that came by a JOIN", x.result(0), 0);
        due("result(3), ENDED", x.result(3), 5);
        for (long task : wrongTasks(x)) {
            due("result(" + task + ")", x.result((int) task), 0);
        }
        BranchCells y = four();
        y.deep(2000);
        due("result(2), FAILED", y.result(2), 0);
        due("result(0) without a run", made(of()).result(0), 0);
    }

    private static void outs() {
        sentence("The i-th of its OUT. BAD, not so many: 0.");
        BranchCells x = started(9, of(FROM, 0, TELL, 0, FROM, 0, TELL, 0, PUT, 1));
        due("out(0, 0), none yet", x.out(0, 0), 0);
        x.step(0, 300);
        due("out(0, 0)", x.out(0, 0), 9);
        due("out(0, 1)", x.out(0, 1), 9);
        for (int i : of(-1, 2, 59, 60, LEAST, MOST)) {
            due("out(0, " + i + ")", x.out(0, i), 0);
        }
        for (long task : wrongTasks(x)) {
            due("out(" + task + ", 0)", x.out((int) task, 0), 0);
        }
        due("out(0, 0) without a run", made(of()).out(0, 0), 0);
    }

    private static void reads() {
        sentence("What a TASK READS in a CELL (ENDED, FAILED, too). BAD, GONE: 0.");
        BranchCells x = four();
        x.deep(2000);
        due("read(0, 2), FAILED", x.read(0, 2), 6);
        due("read(1, 2), ENDED", x.read(1, 2), 6);
        due("read(2, 2), FAILED", x.read(2, 2), 6);
        due("read(3, 2), GONE", x.read(3, 2), 0);
        due("read(0, 15), never WRITTEN", x.read(0, 15), 0);
        for (int cell : of(-1, 16, LEAST, MOST)) {
            due("read(0, " + cell + ")", x.read(0, cell), 0);
        }
        for (long task : wrongTasks(x)) {
            due("read(" + task + ", 2)", x.read((int) task, 2), 0);
        }
        due("read(0, 0) without a run", made(of()).read(0, 0), 0);
    }

    private static void marks() {
        sentence("A TASK's MARK. BAD: 0.");
        BranchCells x = four();
        due("mark(0)", x.mark(0), 17);
        for (long task : wrongTasks(x)) {
            due("mark(" + task + ")", x.mark((int) task), 0);
        }
        due("mark(0) without a run", made(of()).mark(0), 0);
        sentence("by JOINING 31 times that and the MARK of the JOINED one");
        BranchCells y = started(0, of(PUT, 0, FORK, 1, JOIN, 0), of());
        y.step(0, 300);
        due("of one that did no STEP", y.mark(0), ((17L * 31 + PUT) * 31 + FORK) * 31 * 31 + JOIN * 31 + 17);
        BranchCells z = started(0, of(PUT, 0, FORK, 1, JOIN, 0), of(GO, 0));
        z.deep(2000);
        due("of one that FAILED, it wraps", z.mark(0), ((17L * 31 + PUT) * 31 + FORK) * 31 * 31 + JOIN * 31 + z.mark(1));
    }

    // ---- tasks that wait, join and tell

    private static void numbersOfTasks() {
        sentence("The TASKS of a run are numbered as they come; the first one, 0, runs BLOCK 0");
        BranchCells x = started(0, of(PUT, 0, FORK, 2, PUT, 0, FORK, 1), of(PUT, 0, FORK, 2), of(PUT, 0, FORK, 1, GO, 3));
        due("about(0, 5)", x.about(0, 5), 0);
        x.step(0, 2);
        x.step(1, 2);
        x.step(0, 2);
        due("about(1, 5)", x.about(1, 5), 2);
        due("about(2, 1), FORKED by TASK 1", x.about(2, 1), 1);
        due("about(3, 1), FORKED by TASK 0", x.about(3, 1), 0);
        due("about(3, 2)", x.about(3, 2), 2);
        due("about(2, 7)", x.about(2, 7), 2);
        due("about(3, 7)", x.about(3, 7), 1);
    }

    private static void waitsBelow200() {
        sentence("and it has done fewer than 200 STEPS");
        for (int steps = 198; steps <= 200; steps++) {
            boolean waits = steps < 200;
            BranchCells x = started(0, joined(padded(steps, PUT, 0, FORK, 1), of(JOIN, 0)), of(GO, 0));
            x.step(0, steps);
            due("about(0, 3)", x.about(0, 3), steps);
            due("about(0, 0) behind " + steps, x.about(0, 0), waits ? 1 : 0);
            due("about(0, 11) behind " + steps, x.about(0, 11), waits ? 1 : NONE);
            due("ready(0) behind " + steps, x.ready(0), waits ? 1 : 0);
            due("step(0, 1) behind " + steps, x.step(0, 1), waits ? 1 : 3);
            due("about(0, 4) behind " + steps, x.about(0, 4), waits ? 0 : 6);
            due("about(1, 0), it is not JOINED", x.about(1, 0), 0);
        }
    }

    private static void waitsForOpenOnes() {
        sentence("A TASK WAITS, and can do no STEP, as long as its next CODE is a JOIN, what is on top of its PILE a HANDLE");
        BranchCells x = started(0, of(PUT, 0, FORK, 1, PUT, 4, JOIN, 0), of(GO, 0));
        due("a NUMBER on top, step(0, 300)", x.step(0, 300), 3);
        due("a NUMBER on top, about(0, 4)", x.about(0, 4), 2);
        x = started(0, of(JOIN, 0));
        due("an empty PILE, about(0, 0)", x.about(0, 0), 0);
        due("an empty PILE, step(0, 1)", x.step(0, 1), 3);
        x = started(0, of(PUT, 0, FORK, 1, GO, 3, JOIN, 0), of(GO, 0));
        due("the next CODE is none, step(0, 2)", x.step(0, 2), 0);
        due("the next CODE is a JOIN, step(0, 1)", x.step(0, 1), 1);
        sentence("of a TASK that is neither ENDED nor FAILED");
        x.step(1, 200);
        due("there is more to do, about(0, 0)", x.about(0, 0), 1);
        x.step(1, 1);
        due("it FAILED, about(0, 0)", x.about(0, 0), 0);
        x = started(0, of(PUT, 0, FORK, 1, JOIN, 0), of(PUT, 0, FORK, 2, JOIN, 0), of(GO, 1));
        x.step(0, 300);
        x.step(1, 300);
        due("it WAITS itself, about(0, 0)", x.about(0, 0), 1);
        due("it WAITS itself, about(0, 11)", x.about(0, 11), 1);
        x.deep(2000);
        due("all ENDED, about(0, 0)", x.about(0, 0), 2);
    }

    private static void joinsFailedOnes() {
        sentence("If it FAILED the TASK FAILS with its number");
        int[][] failing = {of(PUT, 63, FAIL, 0), of(PUT, 0, FAIL, 0), of(ADD, 0), of(GO, 0), of(PUT, 0, FORK, 7)};
        int[] why = {163, 100, 8, 6, 10};
        for (int i = 0; i < failing.length; i++) {
            BranchCells x = started(0, of(PUT, 4, WRITE, 1, PUT, 0, FORK, 1, JOIN, 0, PUT, 1),
                joined(of(PUT, 9, WRITE, 1, PUT, 3, TELL, 0), failing[i]));
            x.deep(2000);
            due("about(0, 4)", x.about(0, 4), why[i]);
            due("about(1, 4)", x.about(1, 4), why[i]);
            due("about(1, 0), it is GONE", x.about(1, 0), 4);
            due("about(0, 6), its place stays", x.about(0, 6), 4);
            due("about(0, 9), the HANDLE is gone", x.about(0, 9), 0);
            due("out(0, 0), OUT gets all of its OUT", x.out(0, 0), 3);
            due("read(0, 1), nothing is merged", x.read(0, 1), 4);
            due("count(8)", x.count(8), 0);
        }
        BranchCells x = started(0, of(PUT, 0, FORK, 1, JOIN, 0), of(PUT, 0, FORK, 2, JOIN, 0), of(PUT, 5, FAIL, 0));
        x.deep(2000);
        due("through two JOINS, about(0, 4)", x.about(0, 4), 105);
    }

    private static void sixtyOuts() {
        sentence("OUT has 60 at most; further ones are left out");
        BranchCells alone = started(9, of(FROM, 0, TELL, 0, GO, 0));
        for (int told = 59; told <= 61; told++) {
            alone.step(0, 3 * told - alone.about(0, 3));
            due("about(0, 10), " + told + " told", alone.about(0, 10), Math.min(60, told));
            due("about(0, 4), " + told + " told", alone.about(0, 4), 0);
        }
        due("out(0, 59)", alone.out(0, 59), 9);
        due("out(0, 60)", alone.out(0, 60), 0);
        int[] ten = of();
        for (int i = 0; i < 10; i++) {
            ten = joined(ten, of(PUT, i, TELL, 0));
        }
        // three TASKS with 20, 20 and 10 are 50; TASK 0 has 9, 10 or 11 of its own
        int[] teller = joined(ten, ten);
        for (int own = 9; own <= 11; own++) {
            int[] codes = of();
            for (int i = 0; i < own; i++) {
                codes = joined(codes, of(PUT, 500 + i, TELL, 0));
            }
            int[] joins = of(PUT, 0, FORK, 1, JOIN, 0, TO, 1, PUT, 0, FORK, 1, JOIN, 0, TO, 1, PUT, 0, FORK, 2, JOIN, 0, END, 0);
            BranchCells x = started(0, joined(codes, joins), teller, joined(ten, of(PUT, 77, END, 0)));
            x.deep(2000);
            due("result(0), leaving out is no failure", x.result(0), 77);
            due("about(0, 10)", x.about(0, 10), Math.min(60, own + 50));
            due("out(0, 0)", x.out(0, 0), 500);
            due("out(0, " + own + "), behind its own", x.out(0, own), 0);
            due("out(0, 58)", x.out(0, 58), (58 - own) % 10);
            due("out(0, 59)", x.out(0, 59), own == 9 ? 0 : (59 - own) % 10);
            due("out(0, 60)", x.out(0, 60), 0);
            due("about(3, 10), the JOINED one's stays", x.about(3, 10), 10);
        }
    }

    // ---- how many calls

    private static void calls512() {
        sentence("An object is used for at most 512 calls after it has been made");
        BranchCells x = new BranchCells();
        x.block();
        x.code(0, FROM, 0);
        x.code(0, END, 0);
        x.start(8);
        for (int call = 5; call <= 510; call++) {
            due("call " + call, x.count(0), 1);
        }
        due("call 511", x.step(0, 2), 2);
        due("call 512", x.result(0), 8);
        // what later calls answer is free, but none may throw
        for (int i = 0; i < 2000; i++) {
            x.start(i);
            x.digest();
        }
    }

    public static void main(String[] args) {
        startsWithoutBlock();
        startsWithoutRight();
        startsAnew();
        nothingStays();
        stops();
        stepNumbers();
        stepAnswers();
        readyOnes();
        deepNumbers();
        deepOrder();
        full2000();
        drawnNumbers();
        drawWraps();
        drawsAmongReadyOnes();
        aboutNumbers();
        aboutFirst();
        results();
        outs();
        reads();
        marks();
        numbersOfTasks();
        waitsBelow200();
        waitsForOpenOnes();
        joinsFailedOnes();
        sixtyOuts();
        calls512();
        System.out.println(wrong == 0 ? "all answers are as due" : wrong + " answers are not as due");
        if (wrong != 0) {
            System.exit(1);
        }
    }
}
