/** What each CODE does, and by what a TASK FAILS (Terms; promises 11, 15 to 19). */
public final class CodesTest {
    private static int wrong = 0;
    private static final int PUT = 0, READ = 1, WRITE = 2, READ_AT = 3, WRITE_AT = 4, ADD = 5, SUB = 6, MUL = 7, DIV = 8;
    private static final int LESS = 9, AND = 10, OR = 11, GO = 12, GO_ZERO = 13, FROM = 14, TO = 15, DROP = 16, FORK = 17;
    private static final int JOIN = 18, TELL = 19, END = 20, FAIL = 21;
    private static final int[] NEEDS = {0, 0, 1, 1, 2, 2, 2, 2, 2, 2, 2, 2, 0, 1, 0, 1, 1, 1, 1, 1, 1, 1};

    private static void due(String call, long got, long want) {
        if (got != want) {
            wrong++;
            System.out.println(call + " answered " + got + ", due is " + want);
        }
    }

    private static void add(BranchCells x, int block, int... codes) {
        for (int i = 0; i + 1 < codes.length; i += 2) {
            due("code(" + block + ", " + codes[i] + ", " + codes[i + 1] + ")", x.code(block, codes[i], codes[i + 1]), i / 2 + 1);
        }
    }

    /** BLOCK 0 with these codes, BLOCK 1 empty, run as far as TASK 0 goes. */
    private static BranchCells ran(long v, int... codes) {
        BranchCells x = new BranchCells();
        x.block();
        x.block();
        add(x, 0, codes);
        x.start(v);
        x.step(0, 300);
        return x;
    }

    private static void ended(String what, long result, BranchCells x) {
        due(what + ": about(0, 0)", x.about(0, 0), 2);
        due(what + ": about(0, 4)", x.about(0, 4), 0);
        due(what + ": result(0)", x.result(0), result);
    }

    private static void failed(String what, int why, int place, int pile, BranchCells x) {
        due(what + ": about(0, 0)", x.about(0, 0), 3);
        due(what + ": about(0, 4)", x.about(0, 4), why);
        due(what + ": about(0, 6)", x.about(0, 6), place);
        due(what + ": about(0, 9)", x.about(0, 9), pile);
        due(what + ": result(0)", x.result(0), 0);
        due(what + ": ready(0)", x.ready(0), x.about(1, 0) == 0 ? 1 : BranchCells.NONE);
    }

    private static void numbers() {
        long least = Long.MIN_VALUE;
        long most = Long.MAX_VALUE;
        ended("puts", -7, ran(0, PUT, -7, END, 0));
        ended("puts the most", Integer.MAX_VALUE, ran(0, PUT, Integer.MAX_VALUE, END, 0));
        ended("v in SLOT 0", most, ran(most, FROM, 0, END, 0));
        long[][] pairs = {{7, 2}, {-7, 2}, {7, -2}, {2, 2}, {most, 2}, {least, -1}, {least, 3}, {0, 5}};
        for (long[] p : pairs) {
            long v = p[0];
            int a = (int) p[1];
            long[] want = {v + a, v - a, v * a, v / a, v < a ? 1 : 0, v & a, v | a};
            for (int op = ADD; op <= OR; op++) {
                ended("code " + op + " of " + v + ", " + a, want[op - ADD], ran(v, FROM, 0, PUT, a, op, 0, END, 0));
            }
            ended("less, " + a + ", " + v, a < v ? 1 : 0, ran(v, PUT, a, FROM, 0, LESS, 0, END, 0));
            ended("minus, " + a + ", " + v, a - v, ran(v, PUT, a, FROM, 0, SUB, 0, END, 0));
        }
    }

    private static void cells() {
        for (int cell = 0; cell < 16; cell++) {
            ended("a CELL is 0", 0, ran(4, READ, cell, END, 0));
            BranchCells x = ran(9, FROM, 0, WRITE, cell, READ, cell, PUT, cell, READ_AT, 0, ADD, 0, END, 0);
            ended("CELL " + cell, 18, x);
            due("read(0, " + cell + ")", x.read(0, cell), 9);
            x = ran(9, PUT, cell, FROM, 0, WRITE_AT, 0, READ, cell, END, 0);
            ended("CELL " + cell + " by x", 9, x);
            due("read(0, other)", x.read(0, (cell + 1) % 16), 0);
        }
        failed("reads CELL 16", 9, 1, 0, ran(0, PUT, 16, READ_AT, 0));
        failed("reads CELL -1", 9, 1, 0, ran(0, PUT, -1, READ_AT, 0));
        failed("reads CELL 2^32", 9, 1, 0, ran(1L << 32, FROM, 0, READ_AT, 0));
        failed("writes CELL 16", 9, 2, 0, ran(0, PUT, 16, PUT, 1, WRITE_AT, 0));
        failed("writes CELL 2^32 + 1", 9, 2, 0, ran((1L << 32) + 1, FROM, 0, PUT, 1, WRITE_AT, 0));
    }

    private static void places() {
        ended("goes", 0, ran(0, GO, 3, PUT, 1, END, 0));
        ended("goes on", 2, ran(0, GO, 3, PUT, 1, END, 0, PUT, 2, END, 0));
        ended("goes if 0", 2, ran(0, FROM, 0, GO_ZERO, 4, PUT, 1, END, 0, PUT, 2, END, 0));
        ended("goes not if 1", 1, ran(1, FROM, 0, GO_ZERO, 4, PUT, 1, END, 0, PUT, 2, END, 0));
        ended("goes not if -2^63", 1, ran(Long.MIN_VALUE, FROM, 0, GO_ZERO, 4, PUT, 1, END, 0, PUT, 2, END, 0));
        BranchCells x = ran(0, GO, 40);
        ended("goes behind the last", 0, x);
        due("its place", x.about(0, 6), 40);
        due("its STEPS", x.about(0, 3), 1);
        x = ran(0, PUT, 5, PUT, 6);
        ended("behind the last", 0, x);
        due("its place", x.about(0, 6), 2);
        due("its PILE", x.about(0, 9), 2);
        due("its STEPS", x.about(0, 3), 2);
        x = ran(0);
        ended("a BLOCK without codes", 0, x);
        due("its STEPS", x.about(0, 3), 0);
        due("its MARK", x.mark(0), 17);
        x = ran(0, PUT, 5, PUT, 6, END, 0, PUT, 1);
        due("place behind an END", x.about(0, 6), 3);
        due("PILE behind an END", x.about(0, 9), 1);
    }

    private static void slots() {
        ended("SLOTS hold", 35, ran(5, PUT, 7, TO, 7, FROM, 7, FROM, 0, MUL, 0, END, 0));
        ended("a NUMBER stays in its SLOT", 10, ran(5, FROM, 0, FROM, 0, ADD, 0, END, 0));
        ended("SLOTS are 0 at first", 0, ran(5, FROM, 1, END, 0));
        ended("drops", 1, ran(5, PUT, 1, PUT, 2, DROP, 0, END, 0));
        BranchCells x = ran(5, PUT, 3, FORK, 1, TO, 2, FROM, 2, DROP, 0, FROM, 2, END, 0);
        ended("a HANDLE goes from its SLOT and leaves 0", 0, x);
        due("the PILE", x.about(0, 9), 0);
        failed("what is left is no HANDLE", 2, 6, 0, ran(5, PUT, 3, FORK, 1, TO, 2, FROM, 2, DROP, 0, FROM, 2, JOIN, 0));
        ended("a HANDLE can be written over", 4, ran(5, PUT, 3, FORK, 1, TO, 2, PUT, 4, TO, 2, FROM, 2, END, 0));
    }

    private static void tellings() {
        BranchCells x = ran(-3, FROM, 0, TELL, 0, PUT, 9, TELL, 0);
        due("about(0, 10)", x.about(0, 10), 2);
        due("out(0, 0)", x.out(0, 0), -3);
        due("out(0, 1)", x.out(0, 1), 9);
        due("out(0, 2)", x.out(0, 2), 0);
        due("out(0, -1)", x.out(0, -1), 0);
        due("out(1, 0)", x.out(1, 0), 0);
        due("out(-1, 0)", x.out(-1, 0), 0);
        // three STEPS a telling: there would be 67 in 200 STEPS
        x = ran(7, FROM, 0, TELL, 0, GO, 0);
        due("OUT has 60 at most", x.about(0, 10), 60);
        due("out(0, 59)", x.out(0, 59), 7);
        due("out(0, 60)", x.out(0, 60), 0);
        due("STEPS go on", x.about(0, 3), 201);
    }

    private static void ownFailures() {
        failed("fails with 100", 100, 1, 0, ran(0, PUT, 0, FAIL, 0));
        failed("fails with 163", 163, 1, 0, ran(0, PUT, 63, FAIL, 0));
        failed("fails with the lowest six bits", 100, 1, 0, ran(0, PUT, 64, FAIL, 0));
        failed("fails with those of -1", 163, 1, 0, ran(0, PUT, -1, FAIL, 0));
        failed("fails with those of 2^40 + 5", 105, 2, 1, ran((1L << 40) + 5, PUT, 8, FROM, 0, FAIL, 0));
    }

    private static void tooFew() {
        for (int op = 0; op <= 21; op++) {
            for (int there = 0; there < NEEDS[op]; there++) {
                failed("code " + op + " on " + there, 8, there, there, there == 0 ? ran(0, op, 0) : ran(0, PUT, 1, op, 0));
            }
        }
        failed("a HANDLE alone is too few", 8, 2, 1, ran(0, PUT, 1, FORK, 1, ADD, 0));
    }

    private static void sorts() {
        int[] one = {WRITE, READ_AT, GO_ZERO, TELL, FAIL};
        for (int op : one) {
            failed("code " + op + " of a HANDLE", 2, 3, 1, ran(0, PUT, 8, PUT, 1, FORK, 1, op, 0));
        }
        for (int op = WRITE_AT; op <= OR; op++) {
            failed("y is a HANDLE, both are gone, code " + op, 2, 3, 0, ran(0, PUT, 8, PUT, 1, FORK, 1, op, 0));
            failed("y is a HANDLE, one below x stays, code " + op, 2, 4, 1, ran(0, PUT, 7, PUT, 8, PUT, 1, FORK, 1, op, 0));
            failed("x is a HANDLE, code " + op, 2, 3, 0, ran(0, PUT, 1, FORK, 1, PUT, 8, op, 0));
            failed("both are HANDLES, code " + op, 2, 4, 0, ran(0, PUT, 1, FORK, 1, PUT, 1, FORK, 1, op, 0));
        }
        failed("x / 0 of a HANDLE", 2, 3, 0, ran(0, PUT, 1, FORK, 1, PUT, 0, DIV, 0));
        failed("JOINS a NUMBER", 2, 1, 0, ran(0, PUT, 1, JOIN, 0));
        failed("JOINS 0", 2, 1, 0, ran(0, PUT, 0, JOIN, 0));
        ended("ENDS with a HANDLE", 0, ran(0, PUT, 1, FORK, 1, END, 0));
        ended("FORKS with a HANDLE", 5, ran(0, PUT, 1, FORK, 1, FORK, 1, DROP, 0, PUT, 5, END, 0));
    }

    private static void divisions() {
        failed("x / 0", 1, 2, 0, ran(0, PUT, 4, PUT, 0, DIV, 0));
        failed("0 / 0", 1, 2, 0, ran(0, PUT, 0, PUT, 0, DIV, 0));
        ended("0 / 3", 0, ran(0, PUT, 0, PUT, 3, DIV, 0, END, 0));
    }

    private static void fullPile() {
        int[] codes = new int[26];
        for (int i = 0; i < 24; i += 2) {
            codes[i] = PUT;
            codes[i + 1] = i;
        }
        int[][] last = {{PUT, 1}, {READ, 1}, {FROM, 1}};
        for (int[] code : last) {
            codes[24] = code[0];
            codes[25] = code[1];
            failed("the 13th by code " + code[0], 7, 12, 12, ran(0, codes));
        }
        codes[24] = READ_AT;
        due("12 on the PILE may be taken and put", ran(0, codes).about(0, 4), 9);
        codes[24] = FORK;
        due("a FORK of 12 takes one and puts one", ran(0, codes).about(0, 9), 12);
        codes[24] = ADD;
        due("an ADD of 12 leaves 11", ran(0, codes).about(0, 9), 11);
    }

    private static void handleStaysIfPileIsFull() {
        int[] codes = new int[6 + 26];
        int[] first = {PUT, 1, FORK, 1, TO, 4};
        System.arraycopy(first, 0, codes, 0, 6);
        for (int i = 6; i < 30; i += 2) {
            codes[i] = PUT;
        }
        codes[30] = FROM;
        codes[31] = 4;
        failed("a HANDLE stays in its SLOT", 7, 15, 12, ran(0, codes));
    }

    private static void steps() {
        BranchCells x = ran(0, GO, 0);
        failed("the 201st STEP", 6, 0, 0, x);
        due("its STEPS", x.about(0, 3), 201);
        long mark = 17;
        for (int i = 0; i < 201; i++) {
            mark = 31 * mark + GO;
        }
        due("its MARK", x.mark(0), mark);
        x = ran(0, PUT, 22, TO, 1, FROM, 1, GO_ZERO, 9, FROM, 1, PUT, 1, SUB, 0, TO, 1, GO, 2,
            PUT, 1, DROP, 0, GO, 12, GO, 13, ADD, 0);
        due("2, 22 rounds of 7, the last GO_ZERO", x.about(0, 3), 2 + 22 * 7 + 2 + 4 + 1);
        due("a CODE on too few that is not the 201st", x.about(0, 4), 8);
        x = ran(0, PUT, 27, TO, 1, FROM, 1, GO_ZERO, 9, FROM, 1, PUT, 1, SUB, 0, TO, 1, GO, 2,
            PUT, 1, DROP, 0, GO, 12, GO, 13, GO, 14, GO, 15, GO, 16, ADD, 0);
        failed("the 201st goes ahead of too few", 6, 16, 0, x);
        due("2, 27 rounds of 7, 2, 7: its STEPS", x.about(0, 3), 201);
        x = ran(0, FROM, 1, PUT, 1, ADD, 0, TO, 1, FROM, 1, PUT, 22, LESS, 0, GO_ZERO, 9, GO, 0, PUT, 1, DROP, 0, PUT, 1);
        ended("22 rounds and three more are 200 STEPS", 0, x);
        due("its STEPS", x.about(0, 3), 21 * 9 + 8 + 3);
    }

    private static void marks() {
        BranchCells x = ran(3, PUT, 1, DROP, 0, FROM, 0, END, 0);
        long mark = 17;
        for (int op : new int[] {PUT, DROP, FROM, END}) {
            mark = 31 * mark + op;
        }
        due("mark(0)", x.mark(0), mark);
        x = ran(3, PUT, 1, ADD, 0);
        due("mark(0) with a CODE that FAILS", x.mark(0), (17 * 31 + PUT) * 31 + ADD);
        x = ran(3, PUT, 1, FORK, 1, JOIN, 0, END, 0);
        mark = ((17 * 31 + PUT) * 31 + FORK) * 31 + JOIN;
        due("mark(0) with a JOIN", x.mark(0), (mark * 31 + 17) * 31 + END);
        due("mark(1)", x.mark(1), 17);
        due("mark(2)", x.mark(2), 0);
        due("mark(-1)", x.mark(-1), 0);
    }

    public static void main(String[] args) {
        numbers();
        cells();
        places();
        slots();
        tellings();
        ownFailures();
        tooFew();
        sorts();
        divisions();
        fullPile();
        handleStaysIfPileIsFull();
        steps();
        marks();
        System.out.println(wrong == 0 ? "all answers are as due" : wrong + " answers are not as due");
        if (wrong != 0) {
            System.exit(1);
        }
    }
}
