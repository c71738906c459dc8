import java.util.function.Consumer;
import java.util.function.Supplier;

/**
 * The sentences of the document that name a boundary case of what is made ahead of a run (Terms; promises 1 to 8), a
 * test for each; the words of the document stand ahead of its calls.
 */
public final class ProgramEdgesTest {
    private static int wrong = 0;
    private static String words = "";
    private static final int BAD = BranchCells.BAD, NO = BranchCells.NO, FULL = BranchCells.FULL;
    private static final int PUT = 0, WRITE = 2, WRITE_AT = 4, FORK = 17, JOIN = 18;
    private static final int LEAST = Integer.MIN_VALUE, MOST = Integer.MAX_VALUE;

    private static void sentence(String ofTheDocument) {
        words = ofTheDocument;
    }

    private static void due(String call, long got, long want) {
        if (got != want) {
            wrong++;
            System.out.println("\"" + words + "\": " + call + " answered " + got + ", due is " + want);
        }
    }

    private static BranchCells withBlocks(int n) {
        BranchCells x = new BranchCells();
        for (int i = 0; i < n; i++) {
            x.block();
        }
        return x;
    }

    private static BranchCells withMergers(int n) {
        BranchCells x = new BranchCells();
        for (int i = 0; i < n; i++) {
            x.merger();
        }
        return x;
    }

    private static BranchCells withActs(int... ops) {
        BranchCells x = withMergers(1);
        for (int op : ops) {
            x.act(0, op, 3);
        }
        return x;
    }

    /** BLOCK 0 FORKS and JOINS BLOCK 1, which WRITES; BLOCK 2 is full; MERGER 0 tells theirs, MERGER 1 is full, CELL 1 ADDING. */
    private static BranchCells whole() {
        BranchCells x = withBlocks(3);
        int[][] codes = {{0, PUT, 5}, {0, WRITE, 1}, {0, PUT, 0}, {0, FORK, 1}, {0, JOIN, 0}, {1, PUT, 9}, {1, WRITE, 1}};
        for (int[] c : codes) {
            x.code(c[0], c[1], c[2]);
        }
        for (int i = 0; i < 40; i++) {
            x.code(2, PUT, i);
        }
        x.merger();
        x.act(0, 2, 0);
        x.merger();
        for (int i = 0; i < 12; i++) {
            x.act(1, 3, i);
        }
        x.kind(1, 1);
        x.kind(2, 3);
        return x;
    }

    private static BranchCells running() {
        BranchCells x = whole();
        x.start(4);
        x.step(0, 300);
        x.step(1, 1);
        return x;
    }

    /** All that can be asked for, and how it goes on; it ends the run, and adds to what is made. */
    private static String told(BranchCells x) {
        StringBuilder all = new StringBuilder();
        all.append(x.digest()).append(' ').append(x.isRight(0)).append(x.isRight(1)).append(x.isRight(2));
        all.append(' ').append(x.tells(0, 1, 20, 300)).append(' ').append(x.tells(1, 1, 20, 300));
        for (int s = 0; s < 4; s++) {
            all.append(' ').append(x.below(s)).append(' ').append(x.version(s, 1));
        }
        all.append(' ').append(x.deep(2000)).append(' ').append(x.digest()).append(' ').append(x.stop());
        for (int i = 0; i < 3; i++) {
            all.append(' ').append(x.code(i, WRITE_AT, 0)).append(' ').append(x.act(i, 4, 0)).append(' ').append(x.kind(i, 0));
        }
        all.append(' ').append(x.start(7)).append(' ').append(x.deep(2000)).append(' ').append(x.digest());
        return all.append(' ').append(x.block()).append(' ').append(x.merger()).toString();
    }

    /** An object that refused calls is as one that did not get them. */
    private static void unchanged(String which, Supplier<BranchCells> maker, Consumer<BranchCells> refused) {
        BranchCells x = maker.get();
        refused.accept(x);
        String want = told(maker.get());
        String got = told(x);
        if (!got.equals(want)) {
            wrong++;
            System.out.println("\"" + words + "\": behind " + which + " it tells " + got + ", due is " + want);
        }
    }

    // ---- promise 1

    private static void newObject() {
        sentence("All CELLS PLAIN");
        BranchCells x = new BranchCells();
        for (int cell = 0; cell < 16; cell++) {
            due("kind(" + cell + ", 1)", x.kind(cell, 1), 0);
        }
        sentence("no BLOCKS, MERGERS");
        x = new BranchCells();
        due("count(0)", x.count(0), 0);
        due("count(1)", x.count(1), 0);
        due("code(0, 0, 0)", x.code(0, 0, 0), BAD);
        due("act(0, 0, 0)", x.act(0, 0, 0), BAD);
        due("kind(0, 3)", x.kind(0, 3), NO);
        due("start(0)", x.start(0), NO);
        sentence("no run");
        due("count(9)", x.count(9), 0);
        due("stop()", x.stop(), NO);
        due("step(0, 1)", x.step(0, 1), BAD);
        due("gather()", x.gather(), NO);
    }

    // ---- promise 2

    private static void blocksAreFull() {
        sentence("A BLOCK: its number. FULL: 8.");
        BranchCells x = new BranchCells();
        for (int i = 0; i < 8; i++) {
            due("block()", x.block(), i);
        }
        due("the ninth block()", x.block(), FULL);
        due("block() again", x.block(), FULL);
        due("count(0)", x.count(0), 8);
        due("code(7, 0, 0)", x.code(7, PUT, 0), 1);
        due("code(8, 0, 0)", x.code(8, PUT, 0), BAD);
        x.start(0);
        due("block() in a run", x.block(), FULL);
    }

    // ---- promise 3

    private static void codeOfNoBlock() {
        sentence("BAD: the BLOCK");
        BranchCells x = withBlocks(2);
        for (int block : new int[] {-1, 2, 7, 8, LEAST, MOST}) {
            due("code(" + block + ", 0, 0)", x.code(block, PUT, 0), BAD);
        }
        due("code(0, 0, 0)", x.code(0, PUT, 0), 1);
        due("code(1, 0, 0)", x.code(1, PUT, 0), 1);
    }

    private static void codeOfNoOp() {
        sentence("op (0 .. 21)");
        BranchCells x = withBlocks(1);
        for (int op : new int[] {-1, 22, LEAST, MOST}) {
            due("code(0, " + op + ", 0)", x.code(0, op, 0), BAD);
        }
        for (int op = 0; op <= 21; op++) {
            due("code(0, " + op + ", 0)", x.code(0, op, 0), op + 1);
        }
    }

    private static void codeOfNumbers(String ofTheDocument, int most, int... ops) {
        sentence(ofTheDocument);
        for (int op : ops) {
            BranchCells x = withBlocks(1);
            for (int a : new int[] {-1, most + 1, LEAST, MOST}) {
                due("code(0, " + op + ", " + a + ")", x.code(0, op, a), BAD);
            }
            due("code(0, " + op + ", 0)", x.code(0, op, 0), 1);
            due("code(0, " + op + ", " + most + ")", x.code(0, op, most), 2);
        }
    }

    private static void codeOfAnyNumber() {
        sentence("a: of 1, 2 a CELL, of 12, 13 a place 0 .. 40, of 14, 15 a SLOT, of 17 0 .. 7");
        int[] others = {0, 3, 4, 5, 6, 7, 8, 9, 10, 11, 16, 18, 19, 20, 21};
        for (int op : others) {
            BranchCells x = withBlocks(1);
            due("code(0, " + op + ", least), any a", x.code(0, op, LEAST), 1);
            due("code(0, " + op + ", most), any a", x.code(0, op, MOST), 2);
        }
    }

    private static void codeInARun() {
        sentence("code: NO: a run has begun");
        BranchCells x = whole();
        x.start(0);
        due("code(0, 0, 0)", x.code(0, PUT, 0), NO);
        x.deep(2000);
        due("code(0, 0, 0), all have ENDED", x.code(0, PUT, 0), NO);
        x.stop();
        due("code(0, 0, 0) behind stop()", x.code(0, PUT, 0), 6);
    }

    private static void codesAreFull() {
        sentence("A CODE more: how many. .. FULL: 40.");
        BranchCells x = withBlocks(2);
        for (int i = 0; i < 40; i++) {
            due("code(0, 0, " + i + ")", x.code(0, PUT, i), i + 1);
        }
        due("the 41st", x.code(0, PUT, 40), FULL);
        due("the 41st again", x.code(0, PUT, 41), FULL);
        due("another BLOCK's first", x.code(1, PUT, 0), 1);
    }

    // ---- promises 4 and 5

    private static void mergersAreFull() {
        sentence("A MERGER: its number. FULL: 4.");
        BranchCells x = new BranchCells();
        for (int i = 0; i < 4; i++) {
            due("merger()", x.merger(), i);
        }
        due("the fifth merger()", x.merger(), FULL);
        due("merger() again", x.merger(), FULL);
        due("count(1)", x.count(1), 4);
        due("act(3, 0, 0)", x.act(3, 0, 0), 1);
        due("act(4, 0, 0)", x.act(4, 0, 0), BAD);
        x.block();
        x.start(0);
        due("merger() in a run", x.merger(), FULL);
    }

    private static void actOfNoMerger() {
        sentence("act: BAD");
        BranchCells x = withMergers(2);
        for (int merger : new int[] {-1, 2, 3, 4, LEAST, MOST}) {
            due("act(" + merger + ", 0, 0)", x.act(merger, 0, 0), BAD);
        }
        due("act(0, 0, 0)", x.act(0, 0, 0), 1);
        due("act(1, 0, 0)", x.act(1, 0, 0), 1);
    }

    private static void actOfNoOp() {
        sentence("BAD: also op (0 .. 10)");
        BranchCells x = withMergers(1);
        for (int op : new int[] {-1, 11, LEAST, MOST}) {
            due("act(0, " + op + ", 0)", x.act(0, op, 0), BAD);
        }
        for (int op = 0; op <= 10; op++) {
            due("act(0, " + op + ", any a)", x.act(0, op, op % 2 == 0 ? LEAST : MOST), op + 1);
        }
    }

    private static void actInARun() {
        sentence("act: NO: a run has begun");
        BranchCells x = whole();
        x.start(0);
        due("act(0, 0, 0)", x.act(0, 0, 0), NO);
        x.deep(2000);
        due("act(0, 0, 0), all have ENDED", x.act(0, 0, 0), NO);
        x.stop();
        due("act(0, 0, 0) behind stop()", x.act(0, 0, 0), 2);
    }

    private static void actsAreFull() {
        sentence("An ACT more of a MERGER: how many. .. FULL: 12.");
        BranchCells x = withMergers(2);
        for (int i = 0; i < 12; i++) {
            due("act(0, 3, " + i + ")", x.act(0, 3, i), i + 1);
        }
        due("the 13th", x.act(0, 3, 12), FULL);
        due("the 13th again", x.act(0, 4, 13), FULL);
        due("another MERGER's first", x.act(1, 3, 0), 1);
    }

    // ---- promises 6 and 7

    private static void tellsIfRight() {
        sentence("NO: it is not RIGHT: NONE as a long (-4); BAD: -1.");
        due("an empty one's tells", withActs().tells(0, 1, 2, 3), -4L);
        due("tells with two left", withActs(0, 1).tells(0, 1, 2, 3), -4L);
        BranchCells x = withActs(2);
        due("tells(0, 1, 2, 3)", x.tells(0, 1, 2, 3), 3);
        for (int merger : new int[] {-1, 1, 3, 4, LEAST, MOST}) {
            due("tells(" + merger + ", 1, 2, 3)", x.tells(merger, 1, 2, 3), -1L);
        }
        sentence("What a MERGER tells of three.");
        long[] ends = {Long.MIN_VALUE, -4, -1, 0, Long.MAX_VALUE};
        for (long v : ends) {
            due("base, " + v, withActs(0).tells(0, v, 5, 6), v);
            due("ours, " + v, withActs(1).tells(0, 5, v, 6), v);
            due("theirs, " + v, withActs(2).tells(0, 5, 6, v), v);
        }
    }

    private static void rightOnes() {
        sentence("Whether a MERGER is RIGHT: 1, 0. BAD.");
        BranchCells x = withActs(1);
        due("isRight(0)", x.isRight(0), 1);
        for (int merger : new int[] {-1, 1, 3, 4, LEAST, MOST}) {
            due("isRight(" + merger + ")", x.isRight(merger), BAD);
        }
        sentence("It is RIGHT if none takes what is not there");
        for (int op = 4; op <= 10; op++) {
            due("act " + op + " of none", withActs(op).isRight(0), 0);
            due("act " + op + " of one", withActs(0, op).isRight(0), 0);
            due("act " + op + " of two", withActs(0, 1, op).isRight(0), 1);
            due("act " + op + " of one, then enough", withActs(0, op, 1, 2, 4).isRight(0), 0);
            due("act " + op + " of none, then one", withActs(op, 0).isRight(0), 0);
        }
        sentence("and just one is left");
        due("none is left", withActs().isRight(0), 0);
        for (int op = 0; op <= 3; op++) {
            due("one, put by " + op, withActs(op).isRight(0), 1);
            due("two, put by " + op, withActs(op, op).isRight(0), 0);
        }
        due("three made two", withActs(0, 1, 2, 4).isRight(0), 0);
        due("three made one", withActs(0, 1, 2, 4, 4).isRight(0), 1);
    }

    private static void twelveActs() {
        sentence("A MERGER is a row of up to 12 ACTS on a PILE of its own");
        due("eleven ACTS", withActs(0, 1, 2, 3, 0, 1, 4, 4, 4, 4, 4).tells(0, 1, 20, 300), 1 + 20 + 300 + 3 + 1 + 20);
        due("an even number of ACTS never leaves one", withActs(0, 1, 2, 3, 0, 1, 2, 4, 4, 4, 4, 4).isRight(0), 0);
        due("twelve that put", withActs(3, 3, 3, 3, 3, 3, 3, 3, 3, 3, 3, 3).isRight(0), 0);
        due("twelve that take", withActs(4, 4, 4, 4, 4, 4, 4, 4, 4, 4, 4, 4).isRight(0), 0);
        due("the 13th is not there", withActs(0, 1, 2, 3, 0, 1, 2, 4, 4, 4, 4, 4, 4).isRight(0), 0);
        BranchCells x = withActs(1);
        due("told, then again", x.tells(0, 1, 2, 3) + x.tells(0, 1, 7, 3), 9);
    }

    private static void actsOfTwo() {
        long least = Long.MIN_VALUE;
        long most = Long.MAX_VALUE;
        sentence("4 x + y, 5 x - y");
        due("most + 1 wraps", withActs(1, 2, 4).tells(0, 0, most, 1), least);
        due("least + -1 wraps", withActs(1, 2, 4).tells(0, 0, least, -1), most);
        due("least - 1 wraps", withActs(1, 2, 5).tells(0, 0, least, 1), most);
        due("0 - least wraps", withActs(1, 2, 5).tells(0, 0, 0, least), least);
        due("y is above x", withActs(1, 2, 5).tells(0, 0, 9, 2), 7);
        sentence("6 the lesser, 7 the greater");
        due("the lesser of least, most", withActs(1, 2, 6).tells(0, 0, least, most), least);
        due("the lesser of most, least", withActs(1, 2, 6).tells(0, 0, most, least), least);
        due("the greater of least, most", withActs(1, 2, 7).tells(0, 0, least, most), most);
        due("the greater of most, least", withActs(1, 2, 7).tells(0, 0, most, least), most);
        due("the lesser of equals", withActs(1, 2, 6).tells(0, 0, -5, -5), -5);
        due("the greater of equals", withActs(1, 2, 7).tells(0, 0, -5, -5), -5);
        sentence("8 x and y, 9 x or y by bits, 10 x exclusive or y");
        due("least and -1", withActs(1, 2, 8).tells(0, 0, least, -1), least);
        due("least or most", withActs(1, 2, 9).tells(0, 0, least, most), -1);
        due("least exclusive or -1", withActs(1, 2, 10).tells(0, 0, least, -1), most);
        sentence("3 a");
        BranchCells x = withMergers(2);
        x.act(0, 3, LEAST);
        x.act(1, 3, MOST);
        due("a, the least", x.tells(0, 5, 5, 5), -2147483648L);
        due("a, the most", x.tells(1, 5, 5, 5), 2147483647L);
    }

    // ---- promise 8

    private static void kindOfNoCell() {
        sentence("The KIND of a CELL becomes k: which it was. BAD");
        BranchCells x = withMergers(4);
        for (int n : new int[] {-1, LEAST, MOST}) {
            due("kind(" + n + ", 0)", x.kind(n, 0), BAD);
            due("kind(0, " + n + ")", x.kind(0, n), BAD);
        }
        due("kind(16, 0)", x.kind(16, 0), BAD);
        due("kind(0, 7)", x.kind(0, 7), BAD);
        for (int cell : new int[] {0, 15}) {
            for (int k = 0; k <= 6; k++) {
                due("kind(" + cell + ", " + k + ")", x.kind(cell, k), Math.max(k - 1, 0));
            }
            due("kind(" + cell + ", 6), the same again", x.kind(cell, 6), 6);
        }
        due("kind(1, 0), another CELL's", x.kind(1, 0), 0);
    }

    private static void kindInARun() {
        sentence("kind: NO: a run has begun");
        BranchCells x = whole();
        x.start(0);
        due("kind(1, 0)", x.kind(1, 0), NO);
        due("kind(1, 1), as it is", x.kind(1, 1), NO);
        x.deep(2000);
        due("kind(1, 0), all have ENDED", x.kind(1, 0), NO);
        x.stop();
        due("kind(1, 0) behind stop()", x.kind(1, 0), 1);
    }

    private static void kindOfNoMerger() {
        sentence("or the MERGER is not there");
        for (int there = 0; there <= 4; there++) {
            BranchCells x = withMergers(there);
            for (int k = 3; k <= 6; k++) {
                due("kind(0, " + k + ") with " + there, x.kind(0, k), k - 3 >= there ? NO : k == 3 ? 0 : k - 1);
            }
        }
        due("kind(0, 3), it need not be RIGHT yet", withActs(4).kind(0, 3), 0);
    }

    // ---- how calls are refused

    private static void firstOf() {
        sentence("the first of: BAD -1 a number is not as told; NO -2 as told; FULL -3");
        BranchCells x = whole();
        due("code, BAD and FULL", x.code(2, 22, 0), BAD);
        due("code, BAD a and FULL", x.code(2, 1, 16), BAD);
        due("act, BAD and FULL", x.act(1, 11, 0), BAD);
        x.start(0);
        due("code, BAD BLOCK and NO", x.code(3, PUT, 0), BAD);
        due("code, BAD op and NO", x.code(0, -1, 0), BAD);
        due("code, BAD a and NO", x.code(0, 12, 41), BAD);
        due("code, NO and FULL", x.code(2, PUT, 0), NO);
        due("act, BAD and NO", x.act(2, 0, 0), BAD);
        due("act, BAD op and NO", x.act(0, 11, 0), BAD);
        due("act, NO and FULL", x.act(1, 0, 0), NO);
        due("kind, BAD CELL and NO", x.kind(16, 0), BAD);
        due("kind, BAD k and NO", x.kind(0, 7), BAD);
        due("kind, NO twice", x.kind(0, 6), NO);
        BranchCells y = new BranchCells();
        due("kind, BAD CELL and the MERGER is not there", y.kind(-1, 3), BAD);
    }

    private static void changingNothing() {
        sentence("Refused, changing nothing");
        unchanged("code", ProgramEdgesTest::whole, x -> {
            due("code(0, 22, 0)", x.code(0, 22, 0), BAD);
            due("code(0, 2, 16)", x.code(0, WRITE, 16), BAD);
            due("code(2, 0, 0)", x.code(2, PUT, 0), FULL);
        });
        unchanged("act", ProgramEdgesTest::whole, x -> {
            due("act(0, 11, 0)", x.act(0, 11, 0), BAD);
            due("act(1, 0, 0)", x.act(1, 0, 0), FULL);
        });
        unchanged("kind", ProgramEdgesTest::whole, x -> {
            due("kind(1, 7)", x.kind(1, 7), BAD);
            due("kind(1, 5)", x.kind(1, 5), NO);
        });
        unchanged("calls in a run", ProgramEdgesTest::running, x -> {
            due("code(1, 0, 0)", x.code(1, PUT, 0), NO);
            due("act(0, 0, 0)", x.act(0, 0, 0), NO);
            due("kind(1, 0)", x.kind(1, 0), NO);
            due("kind(2, 4)", x.kind(2, 4), NO);
        });
        BranchCells x = withBlocks(8);
        for (int i = 0; i < 4; i++) {
            x.merger();
        }
        long before = x.digest();
        due("block()", x.block(), FULL);
        due("merger()", x.merger(), FULL);
        due("digest()", x.digest(), before);
    }

    public static void main(String[] args) {
        newObject();
        blocksAreFull();
        codeOfNoBlock();
        codeOfNoOp();
        codeOfNumbers("a: of 1, 2 a CELL", 15, 1, 2);
        codeOfNumbers("of 12, 13 a place 0 .. 40", 40, 12, 13);
        codeOfNumbers("of 14, 15 a SLOT", 7, 14, 15);
        codeOfNumbers("of 17 0 .. 7", 7, 17);
        codeOfAnyNumber();
        codeInARun();
        codesAreFull();
        mergersAreFull();
        actOfNoMerger();
        actOfNoOp();
        actInARun();
        actsAreFull();
        tellsIfRight();
        rightOnes();
        twelveActs();
        actsOfTwo();
        kindOfNoCell();
        kindInARun();
        kindOfNoMerger();
        firstOf();
        changingNothing();
        System.out.println(wrong == 0 ? "all answers are as due" : wrong + " answers are not as due");
        if (wrong != 0) {
            System.exit(1);
        }
    }
}
