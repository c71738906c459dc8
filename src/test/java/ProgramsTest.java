/** Promises 1 to 8: what is made ahead of a run. */
public final class ProgramsTest {
    private static int wrong = 0;
    private static final long LEAST = Long.MIN_VALUE, MOST = Long.MAX_VALUE;
    private static final int[] WRONG_NUMBERS = {-1, Integer.MIN_VALUE, Integer.MAX_VALUE};

    private static void due(String call, long got, long want) {
        if (got != want) {
            wrong++;
            System.out.println(call + " answered " + got + ", due is " + want);
        }
    }

    private static BranchCells withBlocks(int n) {
        BranchCells x = new BranchCells();
        for (int i = 0; i < n; i++) {
            x.block();
        }
        return x;
    }

    private static BranchCells withMerger(int... acts) {
        BranchCells x = new BranchCells();
        x.merger();
        for (int i = 0; i + 1 < acts.length; i += 2) {
            due("act " + i / 2, x.act(0, acts[i], acts[i + 1]), i / 2 + 1);
        }
        return x;
    }

    private static void newObject() {
        BranchCells x = new BranchCells();
        for (int what = 0; what <= 9; what++) {
            due("1: count(" + what + ")", x.count(what), 0);
        }
        for (int cell = 0; cell < 16; cell++) {
            due("1: kind(" + cell + ", 0)", x.kind(cell, 0), 0);
        }
        due("1: stop()", x.stop(), BranchCells.NO);
        due("1: isRight(0)", x.isRight(0), BranchCells.BAD);
        due("1: code(0, 0, 0)", x.code(0, 0, 0), BranchCells.BAD);
        long h = 13;
        for (int i = 0; i < 26; i++) {
            h = 31 * h;
        }
        due("1: digest()", x.digest(), h);
        BranchCells other = new BranchCells();
        other.block();
        due("1: count(0) of another object", x.count(0), 0);
    }

    private static void blocks() {
        BranchCells x = new BranchCells();
        for (int i = 0; i < 8; i++) {
            due("2: block()", x.block(), i);
            due("2: count(0)", x.count(0), i + 1);
        }
        due("2: block()", x.block(), BranchCells.FULL);
        due("2: count(0)", x.count(0), 8);
        BranchCells y = withBlocks(1);
        y.start(0);
        due("2: block() in a run", y.block(), 1);
        due("2: count(0) in a run", y.count(0), 2);
    }

    private static void codeNumbers() {
        int[][] bounds = {{1, 15}, {2, 15}, {12, 40}, {13, 40}, {14, 7}, {15, 7}, {17, 7}};
        for (int[] b : bounds) {
            BranchCells x = withBlocks(1);
            String call = "3: code(0, " + b[0] + ", ";
            due(call + "0)", x.code(0, b[0], 0), 1);
            due(call + b[1] + ")", x.code(0, b[0], b[1]), 2);
            due(call + (b[1] + 1) + ")", x.code(0, b[0], b[1] + 1), BranchCells.BAD);
            for (int a : WRONG_NUMBERS) {
                due(call + a + ")", x.code(0, b[0], a), BranchCells.BAD);
            }
            due(call + "1)", x.code(0, b[0], 1), 3);
        }
        int[] free = {0, 3, 4, 5, 6, 7, 8, 9, 10, 11, 16, 18, 19, 20, 21};
        for (int op : free) {
            BranchCells x = withBlocks(1);
            due("3: code(0, " + op + ", least)", x.code(0, op, Integer.MIN_VALUE), 1);
            due("3: code(0, " + op + ", most)", x.code(0, op, Integer.MAX_VALUE), 2);
        }
    }

    private static void codes() {
        BranchCells x = withBlocks(2);
        for (int i = 0; i < 40; i++) {
            due("3: code(1, 0, " + i + ")", x.code(1, 0, i), i + 1);
        }
        due("3: code(1, 0, 0)", x.code(1, 0, 0), BranchCells.FULL);
        due("3: code(1, 22, 0), full", x.code(1, 22, 0), BranchCells.BAD);
        due("3: code(0, 0, 0)", x.code(0, 0, 0), 1);
        due("3: code(2, 0, 0)", x.code(2, 0, 0), BranchCells.BAD);
        for (int n : WRONG_NUMBERS) {
            due("3: code(" + n + ", 0, 0)", x.code(n, 0, 0), BranchCells.BAD);
            due("3: code(0, " + n + ", 0)", x.code(0, n, 0), BranchCells.BAD);
        }
        due("3: code(0, 22, 0)", x.code(0, 22, 0), BranchCells.BAD);
        x.start(0);
        due("3: code(0, 0, 0) in a run", x.code(0, 0, 0), BranchCells.NO);
        due("3: code(1, 0, 0) in a run, full", x.code(1, 0, 0), BranchCells.NO);
        due("3: code(0, 22, 0) in a run", x.code(0, 22, 0), BranchCells.BAD);
        due("3: code(0, 1, 16) in a run", x.code(0, 1, 16), BranchCells.BAD);
        x.stop();
        due("3: code(0, 0, 0) behind a run", x.code(0, 0, 0), 2);
    }

    private static void mergers() {
        BranchCells x = new BranchCells();
        for (int i = 0; i < 4; i++) {
            due("4: merger()", x.merger(), i);
            due("4: count(1)", x.count(1), i + 1);
        }
        due("4: merger()", x.merger(), BranchCells.FULL);
        due("4: count(1)", x.count(1), 4);
        BranchCells y = withBlocks(1);
        y.start(0);
        due("4: merger() in a run", y.merger(), 0);
    }

    private static void acts() {
        BranchCells x = withBlocks(1);
        x.merger();
        x.merger();
        for (int i = 0; i < 12; i++) {
            due("5: act(1, " + i % 11 + ", 0)", x.act(1, i % 11, Integer.MIN_VALUE + i), i + 1);
        }
        due("5: act(1, 0, 0)", x.act(1, 0, 0), BranchCells.FULL);
        due("5: act(1, 11, 0), full", x.act(1, 11, 0), BranchCells.BAD);
        due("5: act(0, 10, 0)", x.act(0, 10, 0), 1);
        due("5: act(0, 11, 0)", x.act(0, 11, 0), BranchCells.BAD);
        due("5: act(2, 0, 0)", x.act(2, 0, 0), BranchCells.BAD);
        for (int n : WRONG_NUMBERS) {
            due("5: act(" + n + ", 0, 0)", x.act(n, 0, 0), BranchCells.BAD);
            due("5: act(0, " + n + ", 0)", x.act(0, n, 0), BranchCells.BAD);
        }
        x.start(0);
        due("5: act(0, 0, 0) in a run", x.act(0, 0, 0), BranchCells.NO);
        due("5: act(1, 0, 0) in a run, full", x.act(1, 0, 0), BranchCells.NO);
        due("5: act(2, 0, 0) in a run", x.act(2, 0, 0), BranchCells.BAD);
        x.stop();
        due("5: act(0, 0, 0) behind a run", x.act(0, 0, 0), 2);
    }

    private static void tells() {
        due("6: base", withMerger(0, 9).tells(0, 11, 22, 33), 11);
        due("6: ours", withMerger(1, 9).tells(0, 11, 22, 33), 22);
        due("6: theirs", withMerger(2, 9).tells(0, 11, 22, 33), 33);
        due("6: a", withMerger(3, -9).tells(0, 11, 22, 33), -9);
        long[][] pairs = {{7, 12}, {-7, 12}, {MOST, 1}, {LEAST, 1}, {LEAST, MOST}, {0, 0}, {-1, 0x0f0f0f0f0fL}};
        for (long[] p : pairs) {
            long x = p[0];
            long y = p[1];
            long[] want = {x + y, x - y, Math.min(x, y), Math.max(x, y), x & y, x | y, x ^ y};
            for (int op = 4; op <= 10; op++) {
                due("6: act " + op + " of " + x + ", " + y, withMerger(1, 0, 2, 0, op, 0).tells(0, 5, x, y), want[op - 4]);
                due("6: act " + op + " of " + y + ", " + x, withMerger(2, 0, 1, 0, op, 0).tells(0, 5, y, x), want[op - 4]);
            }
        }
        BranchCells sum = withMerger(1, 0, 2, 0, 0, 0, 5, 0, 4, 0, 3, 100, 4, 0);
        due("6: ours + (theirs - base) + 100", sum.tells(0, 1, 20, 300), 419);
        due("6: the same again", sum.tells(0, 1, 20, 300), 419);
        due("6: a tell of -1", withMerger(3, -1).tells(0, 0, 0, 0), -1);
        due("6: tells(1, ..)", sum.tells(1, 1, 2, 3), -1);
        due("6: tells(-1, ..)", sum.tells(-1, 1, 2, 3), -1);
        due("6: tells(most, ..)", sum.tells(Integer.MAX_VALUE, 1, 2, 3), -1);
        due("6: two are left", withMerger(1, 0, 2, 0).tells(0, 1, 2, 3), -4);
        due("6: none is left", withMerger().tells(0, 1, 2, 3), -4);
        due("6: one is not there", withMerger(1, 0, 4, 0, 2, 0).tells(0, 1, 2, 3), -4);
    }

    private static void right() {
        due("7: empty", withMerger().isRight(0), 0);
        due("7: one put", withMerger(3, 0).isRight(0), 1);
        due("7: two put", withMerger(3, 0, 3, 0).isRight(0), 0);
        due("7: two made one", withMerger(3, 0, 3, 0, 4, 0).isRight(0), 1);
        due("7: takes of none", withMerger(4, 0).isRight(0), 0);
        due("7: takes two of one", withMerger(3, 0, 6, 0).isRight(0), 0);
        due("7: takes too early, though one would be left", withMerger(3, 0, 4, 0, 3, 0, 3, 0, 4, 0).isRight(0), 0);
        due("7: six put, five made one",
            withMerger(0, 0, 1, 0, 2, 0, 3, 0, 0, 0, 1, 0, 4, 0, 5, 0, 6, 0, 7, 0, 8, 0).isRight(0), 1);
        due("7: twelve put",
            withMerger(0, 0, 0, 0, 0, 0, 0, 0, 0, 0, 0, 0, 0, 0, 0, 0, 0, 0, 0, 0, 0, 0, 0, 0).isRight(0), 0);
        BranchCells x = withMerger(1, 0);
        due("7: isRight(1)", x.isRight(1), BranchCells.BAD);
        due("7: isRight(-1)", x.isRight(-1), BranchCells.BAD);
        x.block();
        x.start(0);
        due("7: isRight(0) in a run", x.isRight(0), 1);
        due("6: tells(0, ..) in a run", x.tells(0, 1, 2, 3), 2);
    }

    private static void kinds() {
        BranchCells x = withBlocks(1);
        for (int cell = 0; cell < 16; cell++) {
            due("8: kind(" + cell + ", 2)", x.kind(cell, 2), 0);
            due("8: kind(" + cell + ", 1)", x.kind(cell, 1), 2);
            due("8: kind(" + cell + ", 0)", x.kind(cell, 0), 1);
        }
        due("8: kind(16, 0)", x.kind(16, 0), BranchCells.BAD);
        due("8: kind(0, 7)", x.kind(0, 7), BranchCells.BAD);
        for (int n : WRONG_NUMBERS) {
            due("8: kind(" + n + ", 0)", x.kind(n, 0), BranchCells.BAD);
            due("8: kind(0, " + n + ")", x.kind(0, n), BranchCells.BAD);
        }
        for (int m = 0; m < 4; m++) {
            due("8: kind(3, " + (3 + m) + ") without the merger", x.kind(3, 3 + m), BranchCells.NO);
            x.merger();
            due("8: kind(3, " + (3 + m) + ")", x.kind(3, 3 + m), m == 0 ? 0 : 2 + m);
        }
        due("8: kind(3, 0)", x.kind(3, 0), 6);
        x.start(0);
        due("8: kind(0, 0) in a run", x.kind(0, 0), BranchCells.NO);
        due("8: kind(16, 0) in a run", x.kind(16, 0), BranchCells.BAD);
        due("8: kind(0, 7) in a run", x.kind(0, 7), BranchCells.BAD);
        x.stop();
        due("8: kind(0, 1) behind a run", x.kind(0, 1), 0);
    }

    public static void main(String[] args) {
        newObject();
        blocks();
        codeNumbers();
        codes();
        mergers();
        acts();
        tells();
        right();
        kinds();
        System.out.println(wrong == 0 ? "all answers are as due" : wrong + " answers are not as due");
        if (wrong != 0) {
            System.exit(1);
        }
    }
}
