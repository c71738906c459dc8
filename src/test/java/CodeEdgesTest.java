/**
 * The sentences of the document that name a boundary case of what a CODE does and by what a TASK FAILS (Terms), a test
 * for each; the words of the document stand ahead of its calls.
 */
public final class CodeEdgesTest {
    private static int wrong = 0;
    private static String words = "";
    private static final int PUT = 0, READ = 1, WRITE = 2, READ_AT = 3, WRITE_AT = 4, ADD = 5, SUB = 6, MUL = 7, DIV = 8;
    private static final int LESS = 9, AND = 10, OR = 11, GO = 12, GO_ZERO = 13, FROM = 14, TO = 15, DROP = 16, FORK = 17;
    private static final int JOIN = 18, TELL = 19, END = 20, FAIL = 21;
    private static final int NONE = BranchCells.NONE;
    private static final long LEAST = Long.MIN_VALUE, MOST = Long.MAX_VALUE;

    private static void sentence(String ofTheDocument) {
        words = ofTheDocument;
    }

    private static void due(String call, long got, long want) {
        if (got != want) {
            wrong++;
            System.out.println("\"" + words + "\": " + call + " answered " + got + ", due is " + want);
        }
    }

    private static int[] of(int... codes) {
        return codes;
    }

    private static int[] joined(int[]... parts) {
        int length = 0;
        for (int[] part : parts) {
            length += part.length;
        }
        int[] all = new int[length];
        int at = 0;
        for (int[] part : parts) {
            System.arraycopy(part, 0, all, at, part.length);
            at += part.length;
        }
        return all;
    }

    private static int[] times(int n, int... codes) {
        int[][] parts = new int[n][];
        java.util.Arrays.fill(parts, codes);
        return joined(parts);
    }

    private static BranchCells started(long v, int[]... blocks) {
        BranchCells x = new BranchCells();
        for (int[] codes : blocks) {
            int block = x.block();
            for (int i = 0; i + 1 < codes.length; i += 2) {
                due("code(" + block + ", " + codes[i] + ", " + codes[i + 1] + ")", x.code(block, codes[i], codes[i + 1]), i / 2 + 1);
            }
        }
        due("start(" + v + ")", x.start(v), 1);
        return x;
    }

    /** BLOCK 0 with these codes, BLOCK 1 empty, run as far as TASK 0 goes. */
    private static BranchCells ran(long v, int... codes) {
        BranchCells x = started(v, codes, of());
        x.step(0, 300);
        return x;
    }

    private static void ends(String what, long result, BranchCells x) {
        due(what + ", about(0, 0)", x.about(0, 0), 2);
        due(what + ", about(0, 4)", x.about(0, 4), 0);
        due(what + ", result(0)", x.result(0), result);
    }

    private static void fails(String what, int why, int pile, BranchCells x) {
        due(what + ", about(0, 0)", x.about(0, 0), 3);
        due(what + ", about(0, 4)", x.about(0, 4), why);
        due(what + ", about(0, 9)", x.about(0, 9), pile);
    }

    /** What a CODE of two puts when x is v and y is w; w is put together from 32 and 16 and 16 bits, as a CODE has an int alone. */
    private static long ofTwo(int op, long v, long w) {
        int high = (int) (w >> 32);
        int low = (int) w;
        int[] y = of(PUT, high, PUT, 65536, MUL, 0, PUT, 65536, MUL, 0, PUT, low >>> 16, PUT, 65536, MUL, 0, OR, 0,
            PUT, low & 65535, OR, 0);
        return ran(v, joined(of(FROM, 0), y, of(op, 0, END, 0))).result(0);
    }

    /** Codes that do exactly so many STEPS, of which the last are the given ones; SLOT 7 is left 0. */
    private static int[] padded(int steps, int... last) {
        int rest = steps - last.length / 2 - 4;
        int[] loop = of(PUT, rest / 7, TO, 7, FROM, 7, GO_ZERO, 9, FROM, 7, PUT, -1, ADD, 0, TO, 7, GO, 2);
        int[] fill = new int[2 * (rest % 7)];
        for (int i = 0; i < fill.length; i += 2) {
            fill[i] = GO;
            fill[i + 1] = 9 + i / 2 + 1;
        }
        return joined(loop, fill, last);
    }

    // ---- cells, slots and the pile

    private static void cells() {
        sentence("CELLS 0 .. 15 hold longs, 0 at first");
        for (int cell : of(0, 15)) {
            ends("CELL " + cell + " at first", 0, ran(7, READ, cell, END, 0));
            for (long v : new long[] {LEAST, -1, 0, MOST}) {
                ends("CELL " + cell + " with " + v, v, ran(v, FROM, 0, WRITE, cell, READ, cell, END, 0));
            }
        }
        sentence("3 takes x, puts what it READS in CELL x");
        ends("CELL 0", 5, ran(5, FROM, 0, WRITE, 0, PUT, 0, READ_AT, 0, END, 0));
        ends("CELL 15", 5, ran(5, FROM, 0, WRITE, 15, PUT, 15, READ_AT, 0, END, 0));
        sentence("4 takes x, y, WRITES y in CELL x");
        ends("CELL 0", 5, ran(5, PUT, 0, FROM, 0, WRITE_AT, 0, READ, 0, END, 0));
        ends("CELL 15", 5, ran(5, PUT, 15, FROM, 0, WRITE_AT, 0, READ, 15, END, 0));
        due("it takes both", ran(5, PUT, 15, FROM, 0, WRITE_AT, 0).about(0, 9), 0);
    }

    private static void slots() {
        sentence("it has SLOTS 0 .. 7");
        for (int slot = 0; slot <= 7; slot++) {
            ends("SLOT " + slot, 9, ran(5, PUT, 9, TO, slot, FROM, slot, END, 0));
        }
        ends("SLOT 7 is not SLOT 0", 5, ran(5, PUT, 9, TO, 7, FROM, 0, END, 0));
        sentence("0 at first");
        for (int slot = 1; slot <= 7; slot++) {
            ends("SLOT " + slot + ", a NUMBER", 3, ran(5, FROM, slot, PUT, 3, ADD, 0, END, 0));
        }
        sentence("14 puts SLOT a (a HANDLE goes from there: 0 is left)");
        ends("a NUMBER stays", 10, ran(5, FROM, 0, FROM, 0, ADD, 0, END, 0));
        ends("a HANDLE goes", 3, ran(5, PUT, 0, FORK, 1, TO, 7, FROM, 7, DROP, 0, FROM, 7, PUT, 3, ADD, 0, END, 0));
        sentence("15 takes x into SLOT a");
        ends("what was there is gone", 4, ran(5, PUT, 4, TO, 0, FROM, 0, END, 0));
        due("x is taken", ran(5, PUT, 4, TO, 0).about(0, 9), 0);
    }

    private static void pile() {
        sentence("a PILE of 12 at most");
        BranchCells x = ran(0, times(12, PUT, 3));
        ends("12 are put", 0, x);
        due("about(0, 9)", x.about(0, 9), 12);
        ends("12 are put and added", 36, ran(0, joined(times(12, PUT, 3), times(11, ADD, 0), of(END, 0))));
        due("empty at first", started(0, of(PUT, 1)).about(0, 9), 0);
        sentence("16 drops x");
        due("about(0, 9)", ran(0, PUT, 1, PUT, 2, DROP, 0).about(0, 9), 1);
    }

    // ---- numbers

    private static void putsNumbers() {
        sentence("0 puts a");
        ends("the least", -2147483648L, ran(0, PUT, Integer.MIN_VALUE, END, 0));
        ends("the most", 2147483647L, ran(0, PUT, Integer.MAX_VALUE, END, 0));
        ends("-1 is -1 as a long", -1L, ran(0, PUT, -1, END, 0));
        ends("0", 0, ran(0, PUT, 0, END, 0));
    }

    private static void wraps() {
        sentence("5 x + y, 6 x - y, 7 x y (they wrap)");
        due("most + 1", ofTwo(ADD, MOST, 1), LEAST);
        due("least + -1", ofTwo(ADD, LEAST, -1), MOST);
        due("least + least", ofTwo(ADD, LEAST, LEAST), 0);
        due("least - 1", ofTwo(SUB, LEAST, 1), MOST);
        due("most - -1", ofTwo(SUB, MOST, -1), LEAST);
        due("0 - least", ofTwo(SUB, 0, LEAST), LEAST);
        due("most * 2", ofTwo(MUL, MOST, 2), -2);
        due("least * -1", ofTwo(MUL, LEAST, -1), LEAST);
        due("most * most", ofTwo(MUL, MOST, MOST), 1);
        due("2^32 * 2^32", ofTwo(MUL, 1L << 32, 1L << 32), 0);
    }

    private static void divides() {
        sentence("8 x / y, cut");
        due("7 / 2", ofTwo(DIV, 7, 2), 3);
        due("-7 / 2", ofTwo(DIV, -7, 2), -3);
        due("7 / -2", ofTwo(DIV, 7, -2), -3);
        due("-7 / -2", ofTwo(DIV, -7, -2), 3);
        due("-1 / 2", ofTwo(DIV, -1, 2), 0);
        due("1 / most", ofTwo(DIV, 1, MOST), 0);
        due("least / most", ofTwo(DIV, LEAST, MOST), -1);
        due("least / -1", ofTwo(DIV, LEAST, -1), LEAST);
        due("least / least", ofTwo(DIV, LEAST, LEAST), 1);
        due("0 / least", ofTwo(DIV, 0, LEAST), 0);
    }

    private static void compares() {
        sentence("9 x below y (1, 0)");
        due("least, most", ofTwo(LESS, LEAST, MOST), 1);
        due("most, least", ofTwo(LESS, MOST, LEAST), 0);
        due("equals", ofTwo(LESS, 4, 4), 0);
        due("4, 5", ofTwo(LESS, 4, 5), 1);
        due("5, 4", ofTwo(LESS, 5, 4), 0);
        due("-1, 0", ofTwo(LESS, -1, 0), 1);
        due("2^32, 1", ofTwo(LESS, 1L << 32, 1), 0);
        sentence("10 x and y by bits, 11 x or y");
        due("least and -1", ofTwo(AND, LEAST, -1), LEAST);
        due("least and most", ofTwo(AND, LEAST, MOST), 0);
        due("least or most", ofTwo(OR, LEAST, MOST), -1);
        due("0 or 0", ofTwo(OR, 0, 0), 0);
    }

    // ---- places and ends

    private static void goes() {
        sentence("12 goes to place a of the BLOCK");
        BranchCells x = ran(0, joined(of(GO, 39), times(38, FAIL, 0), of(PUT, 8)));
        ends("to place 39, the last of 40", 0, x);
        due("its STEPS", x.about(0, 3), 2);
        due("its place", x.about(0, 6), 40);
        x = started(0, of(GO, 0));
        x.step(0, 1);
        due("to place 0, about(0, 0)", x.about(0, 0), 0);
        due("to place 0, about(0, 6)", x.about(0, 6), 0);
        x = ran(0, GO, 40);
        ends("to place 40, behind the last", 0, x);
        due("its place", x.about(0, 6), 40);
        x = ran(0, GO, 1);
        due("just behind the last, its place", x.about(0, 6), 1);
        sentence("13 takes x, goes there if it is 0");
        ends("0", 2, ran(0, FROM, 0, GO_ZERO, 4, PUT, 1, END, 0, PUT, 2, END, 0));
        for (long v : new long[] {1, -1, LEAST, MOST, 1L << 32}) {
            ends("" + v, 1, ran(v, FROM, 0, GO_ZERO, 4, PUT, 1, END, 0, PUT, 2, END, 0));
        }
        x = ran(0, PUT, 0, GO_ZERO, 40, PUT, 1);
        ends("to place 40", 0, x);
        due("its place", x.about(0, 6), 40);
    }

    private static void behindTheLast() {
        sentence("Behind the last CODE it ENDS with 0 at once (also in a BLOCK that has none)");
        BranchCells x = started(5, of(PUT, 7));
        due("step(0, 1)", x.step(0, 1), 2);
        due("result(0), though 7 is on its PILE", x.result(0), 0);
        due("about(0, 3), ENDING is no STEP", x.about(0, 3), 1);
        x = started(5, of());
        due("no CODES, about(0, 0)", x.about(0, 0), 2);
        due("no CODES, ready(0)", x.ready(0), NONE);
        due("no CODES, about(0, 3)", x.about(0, 3), 0);
        due("no CODES, mark(0)", x.mark(0), 17);
        due("no CODES, step(0, 300)", x.step(0, 300), 2);
        due("no CODES, count(3)", x.count(3), 0);
        x = started(5, of(PUT, 3, FORK, 1, JOIN, 0, PUT, 1, ADD, 0, END, 0), of());
        x.step(0, 2);
        due("FORKED, no CODES, about(1, 0)", x.about(1, 0), 2);
        due("it can be JOINED at once", x.step(0, 300), 2);
        due("its RESULT is 0", x.result(0), 1);
        x = ran(0, padded(200));
        ends("behind the last by the 200th STEP", 0, x);
        due("its STEPS", x.about(0, 3), 200);
    }

    private static void fortyCodes() {
        sentence("rows of up to 40 CODES");
        BranchCells x = ran(0, joined(times(39, GO, 39), of(GO, 0)));
        due("the 40th is done, and goes back", x.about(0, 4), 6);
        x = ran(0, joined(times(19, PUT, 1, DROP, 0), of(PUT, 6, END, 0)));
        ends("the 40th is an END", 6, x);
        due("its STEPS", x.about(0, 3), 40);
    }

    private static void ownEnds() {
        sentence("20 takes x: the TASK ENDS, x being its RESULT");
        for (long v : new long[] {LEAST, -4, 0, MOST}) {
            ends("with " + v, v, ran(v, FROM, 0, END, 0, FAIL, 0));
        }
        BranchCells x = ran(0, padded(200, PUT, 6, END, 0));
        ends("by the 200th STEP", 6, x);
        due("its STEPS", x.about(0, 3), 200);
        sentence("21 takes x: it FAILS with 100 and the lowest six bits of x");
        long[] xs = {0, 1, 63, 64, 65, 127, -1, -64, LEAST, MOST, (1L << 32) + 9};
        for (long v : xs) {
            fails("of " + v, 100 + (int) Math.floorMod(v, 64L), 0, ran(v, FROM, 0, FAIL, 0));
        }
    }

    // ---- sorts

    private static void sorts() {
        sentence("What x, y, what is told or WRITTEN must be: NUMBERS");
        for (int op : of(WRITE, READ_AT, GO_ZERO, TELL, FAIL)) {
            fails("code " + op + " of a HANDLE", 2, 1, ran(0, PUT, 7, PUT, 0, FORK, 1, op, 0));
        }
        for (int op = WRITE_AT; op <= OR; op++) {
            fails("code " + op + ", y a HANDLE", 2, 1, ran(0, PUT, 7, PUT, 1, PUT, 0, FORK, 1, op, 0));
            fails("code " + op + ", x a HANDLE", 2, 1, ran(0, PUT, 7, PUT, 0, FORK, 1, PUT, 1, op, 0));
            fails("code " + op + ", both", 2, 1, ran(0, PUT, 7, PUT, 0, FORK, 1, PUT, 0, FORK, 1, op, 0));
        }
        sentence("but of 15, 16, 17, 20 also HANDLES");
        ends("15", 0, ran(0, PUT, 0, FORK, 1, TO, 0));
        ends("16", 0, ran(0, PUT, 0, FORK, 1, DROP, 0));
        ends("17", 0, ran(0, PUT, 0, FORK, 1, FORK, 1));
        ends("20, of which result() tells 0", 0, ran(0, PUT, 0, FORK, 1, END, 0));
        sentence("of 18 a HANDLE");
        for (long v : new long[] {0, 1, -1, MOST}) {
            fails("the NUMBER " + v, 2, 1, ran(v, PUT, 0, FORK, 1, FROM, 0, JOIN, 0));
        }
        fails("the 0 that a HANDLE left", 2, 0, ran(0, PUT, 0, FORK, 1, TO, 1, FROM, 1, DROP, 0, FROM, 1, JOIN, 0));
    }

    // ---- by what a TASK FAILS

    private static void steps201() {
        sentence("6 it is its 201st STEP");
        int[] ready = of(PUT, 3, PUT, 4, PUT, 5);
        for (int op = 0; op <= FAIL; op++) {
            boolean handle = op == JOIN;
            int[] last = handle ? of(PUT, 3, PUT, 4, PUT, 5, FORK, 1) : ready;
            BranchCells x = ran(0, joined(padded(200, last), of(op, 0)));
            fails("code " + op + " as the 201st", 6, 3, x);
            due("code " + op + ", its STEPS", x.about(0, 3), 201);
            due("code " + op + ", OUT", x.about(0, 10), 0);
            due("code " + op + ", CELL 0", x.read(0, 0), 0);
            due("code " + op + ", TASKS", x.count(2), handle ? 2 : 1);
            due("code " + op + ", step(0, 300)", x.step(0, 300), 3);
            due("code " + op + ", STEPS behind that", x.about(0, 3), 201);
        }
        BranchCells x = ran(0, joined(padded(199, PUT, 3, PUT, 4), of(ADD, 0, END, 0)));
        fails("the 200th is done", 6, 1, x);
        x = ran(0, joined(padded(198, PUT, 3, PUT, 4), of(ADD, 0, END, 0)));
        ends("199 and the 200th", 7, x);
    }

    private static void tooFew() {
        sentence("8 the PILE has too few");
        int[] takes = {0, 0, 1, 1, 2, 2, 2, 2, 2, 2, 2, 2, 0, 1, 0, 1, 1, 1, 1, 1, 1, 1};
        for (int op = 0; op <= FAIL; op++) {
            for (int there = 0; there < takes[op]; there++) {
                fails("code " + op + " with " + there, 8, there, ran(0, joined(times(there, PUT, 1), of(op, 0))));
            }
            if (takes[op] > 0 && op != JOIN && op != FAIL) {
                due("code " + op + " with enough", ran(0, joined(times(takes[op], PUT, 1), of(op, 0))).about(0, 4), 0);
            }
        }
        for (int op : of(PUT, READ, GO, FROM)) {
            due("code " + op + " needs none", ran(0, op, 1).about(0, 4), 0);
        }
    }

    private static void noCell() {
        sentence("9 CELL x is none");
        for (long v : new long[] {-1, 16, LEAST, MOST, 1L << 32, (1L << 32) + 15}) {
            fails("READS " + v, 9, 0, ran(v, FROM, 0, READ_AT, 0));
            BranchCells x = ran(v, FROM, 0, PUT, 77, WRITE_AT, 0);
            fails("WRITES " + v, 9, 0, x);
            due("it WRITES nothing", x.count(5), 0);
        }
    }

    private static void byZero() {
        sentence("1 x / 0");
        for (long v : new long[] {0, 1, -1, LEAST, MOST}) {
            fails(v + " / 0", 1, 0, ran(v, FROM, 0, PUT, 0, DIV, 0));
        }
        ends("0 / 1", 0, ran(0, PUT, 0, PUT, 1, DIV, 0, END, 0));
    }

    private static void noBlock() {
        sentence("10 BLOCK a is not there");
        for (int block = 2; block <= 7; block++) {
            BranchCells x = ran(0, PUT, 0, FORK, block);
            fails("BLOCK " + block, 10, 0, x);
            due("count(2)", x.count(2), 1);
            due("count(6)", x.count(6), 1);
            due("about(0, 8)", x.about(0, 8), 0);
        }
        due("BLOCK 1 is there", ran(0, PUT, 0, FORK, 1).about(0, 4), 0);
        BranchCells x = started(0, of(PUT, 0, FORK, 7), of(), of(), of(), of(), of(), of(), of());
        due("BLOCK 7 is there", x.step(0, 300), 2);
    }

    private static void threeBelow() {
        sentence("4 it is three FORKS below the first TASK");
        int[] again = of(PUT, 0, FORK, 0);
        BranchCells x = started(0, again);
        x.deep(2000);
        due("count(2)", x.count(2), 4);
        for (int task = 0; task <= 3; task++) {
            due("about(" + task + ", 7)", x.about(task, 7), task);
            due("about(" + task + ", 4)", x.about(task, 4), task == 3 ? 4 : 0);
            due("about(" + task + ", 8)", x.about(task, 8), task == 3 ? 0 : 1);
        }
        due("x is gone, about(3, 9)", x.about(3, 9), 0);
        due("about(3, 6)", x.about(3, 6), 1);
        due("count(6)", x.count(6), 7);
    }

    private static void fourthFork() {
        sentence("5 its fourth FORK");
        BranchCells x = ran(0, times(3, PUT, 0, FORK, 1));
        ends("three FORKS", 0, x);
        due("about(0, 8)", x.about(0, 8), 3);
        x = ran(0, times(4, PUT, 0, FORK, 1));
        fails("four", 5, 3, x);
        due("about(0, 8)", x.about(0, 8), 3);
        due("about(0, 6)", x.about(0, 6), 7);
        due("count(2)", x.count(2), 4);
        due("count(6)", x.count(6), 7);
        x = ran(0, joined(times(3, PUT, 0, FORK, 1, JOIN, 0), of(PUT, 0, FORK, 1)));
        fails("four, the first three JOINED", 5, 3, x);
    }

    private static void thirteen() {
        sentence("7 the PILE would have 13");
        int[] twelve = times(12, PUT, 1);
        for (int op : of(PUT, READ, FROM)) {
            fails("code " + op + " on 12", 7, 12, ran(0, joined(twelve, of(op, 0))));
            due("code " + op + " on 11", ran(0, joined(times(11, PUT, 1), of(op, 0))).about(0, 9), 12);
        }
        for (int op : of(READ_AT, FORK)) {
            BranchCells x = ran(0, joined(twelve, of(op, 1)));
            due("code " + op + " takes one of 12 and puts one", x.about(0, 4), 0);
            due("code " + op + ", about(0, 9)", x.about(0, 9), 12);
        }
        BranchCells x = ran(0, joined(times(11, PUT, 1), of(PUT, 0, FORK, 1, JOIN, 0)));
        due("a JOIN on 12", x.about(0, 4), 0);
        due("a JOIN on 12, about(0, 9)", x.about(0, 9), 12);
        x = ran(0, joined(of(PUT, 0, FORK, 1, TO, 1), twelve, of(FROM, 1)));
        fails("a HANDLE from a SLOT", 7, 12, x);
    }

    private static void firstOf() {
        sentence("with the first of: 6 .. 8 .. 2 .. 9 .. 1 .. 10 .. 4 .. 5 .. 7 .. 21");
        fails("6 ahead of 8", 6, 0, ran(0, joined(padded(200), of(ADD, 0))));
        fails("6 ahead of 2", 6, 1, ran(0, joined(padded(200, PUT, 0, FORK, 1), of(TELL, 0))));
        fails("6 ahead of 9", 6, 1, ran(0, joined(padded(200, PUT, 16), of(READ_AT, 0))));
        fails("6 ahead of 1", 6, 2, ran(0, joined(padded(200, PUT, 1, PUT, 0), of(DIV, 0))));
        fails("6 ahead of 10", 6, 1, ran(0, joined(padded(200, PUT, 1), of(FORK, 2))));
        fails("6 ahead of 5", 6, 4, ran(0, joined(padded(200, joined(times(3, PUT, 0, FORK, 1), of(PUT, 0))), of(FORK, 1))));
        fails("6 ahead of 7", 6, 12, ran(0, joined(padded(200, times(12, PUT, 0)), of(PUT, 0))));
        fails("6 ahead of 21", 6, 1, ran(0, joined(padded(200, PUT, 7), of(FAIL, 0))));
        fails("8 ahead of 2", 8, 1, ran(0, PUT, 0, FORK, 1, ADD, 0));
        fails("8 ahead of 10", 8, 0, ran(0, FORK, 2));
        fails("8 ahead of 5", 8, 0, ran(0, joined(times(3, PUT, 0, FORK, 1, DROP, 0), of(FORK, 1))));
        fails("8 ahead of 21", 8, 0, ran(0, FAIL, 0));
        fails("2 ahead of 9, y", 2, 0, ran(0, PUT, 16, PUT, 0, FORK, 1, WRITE_AT, 0));
        fails("2 ahead of 9, x", 2, 0, ran(0, PUT, 0, FORK, 1, READ_AT, 0));
        fails("2 ahead of 1", 2, 0, ran(0, PUT, 0, FORK, 1, PUT, 0, DIV, 0));
        fails("2 ahead of 21", 2, 0, ran(0, PUT, 0, FORK, 1, FAIL, 0));
        fails("10 ahead of 5", 10, 0, ran(0, joined(times(3, PUT, 0, FORK, 1, DROP, 0), of(PUT, 0, FORK, 2))));
        BranchCells x = started(0, of(PUT, 0, FORK, 1), of(PUT, 0, FORK, 2), of(PUT, 0, FORK, 3), of(PUT, 0, FORK, 4));
        x.deep(2000);
        due("10 ahead of 4, about(3, 4)", x.about(3, 4), 10);
        x = started(0, of(PUT, 0, FORK, 1), of(PUT, 0, FORK, 2), of(PUT, 0, FORK, 3), joined(padded(200, PUT, 0), of(FORK, 0)));
        x.deep(2000);
        due("6 ahead of 4, about(3, 4)", x.about(3, 4), 6);
        x = started(0, of(PUT, 0, FORK, 1), of(PUT, 0, FORK, 2), of(PUT, 0, FORK, 3), of(FORK, 0));
        x.deep(2000);
        due("8 ahead of 4, about(3, 4)", x.about(3, 4), 8);
    }

    private static void changesNothingElse() {
        sentence("(It changes nothing else; what was taken is gone, its place stays.)");
        int[] before = of(PUT, 6, WRITE, 1, PUT, 7, TELL, 0, PUT, 0, FORK, 1, PUT, 8, PUT, 1);
        int[][] failing = {{ADD, 0, ADD, 0}, {DIV, 0, DIV, 0}, {FORK, 2}, {FAIL, 0}, {DROP, 0, DROP, 0, DROP, 0, DROP, 0}};
        for (int[] last : failing) {
            int steps = before.length / 2 + last.length / 2;
            BranchCells x = ran(0, joined(before, last, of(PUT, 1)));
            due("about(0, 0)", x.about(0, 0), 3);
            due("about(0, 3), the CODE is done by this", x.about(0, 3), steps);
            due("about(0, 6), its place stays", x.about(0, 6), steps - 1);
            due("about(0, 8)", x.about(0, 8), 1);
            due("about(0, 10)", x.about(0, 10), 1);
            due("about(0, 12)", x.about(0, 12), 1);
            due("read(0, 1)", x.read(0, 1), 6);
            due("count(5)", x.count(5), 1);
            due("count(6)", x.count(6), 3);
            due("result(0)", x.result(0), 0);
        }
        fails("what was taken is gone, of two", 2, 0, ran(0, joined(before, of(ADD, 0, ADD, 0))));
        fails("what was taken is gone, of one", 10, 2, ran(0, joined(before, of(FORK, 2))));
    }

    private static void marks() {
        sentence("A TASK's MARK is 17 at first, and with each STEP 31 times it and the CODE");
        BranchCells x = started(0, of(GO, 0));
        due("mark(0) at first", x.mark(0), 17);
        long mark = 17;
        for (int i = 0; i < 200; i++) {
            mark = 31 * mark + GO;
        }
        x.step(0, 200);
        due("mark(0), it wraps", x.mark(0), mark);
        x.step(0, 1);
        due("mark(0), the STEP that FAILS", x.mark(0), 31 * mark + GO);
        x.step(0, 1);
        due("mark(0), no further STEP", x.mark(0), 31 * mark + GO);
        due("mark(0), CODE 0", ran(0, PUT, 5).mark(0), 17 * 31);
    }

    public static void main(String[] args) {
        cells();
        slots();
        pile();
        putsNumbers();
        wraps();
        divides();
        compares();
        goes();
        behindTheLast();
        fortyCodes();
        ownEnds();
        sorts();
        steps201();
        tooFew();
        noCell();
        byZero();
        noBlock();
        threeBelow();
        fourthFork();
        thirteen();
        firstOf();
        changesNothingElse();
        marks();
        System.out.println(wrong == 0 ? "all answers are as due" : wrong + " answers are not as due");
        if (wrong != 0) {
            System.exit(1);
        }
    }
}
