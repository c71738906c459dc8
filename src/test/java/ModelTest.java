import java.util.ArrayList;
import java.util.HashMap;
import java.util.HashSet;
import java.util.List;
import java.util.Map;
import java.util.Random;
import java.util.Set;
import java.util.TreeMap;
import java.util.TreeSet;

/**
 * Random programs and calls, answered by the class and by a second, slow writing of the document that shares no code
 * with it (maps, lists, exceptions); and the promise of the document's first line: any schedule has the same end.
 */
public final class ModelTest {
    private static int wrong = 0;
    private static final int BAD = -1, NO = -2, FULL = -3, NONE = -4;

    private record Code(int op, int a) { }

    private record Handle(Job job) { }

    private static final class Failure extends Exception {
        private static final long serialVersionUID = 1;
        final int why;

        Failure(int why) {
            super(null, null, false, false);
            this.why = why;
        }
    }

    private static final class Layer {
        final int number;
        Layer under;
        final Map<Integer, Long> versions = new TreeMap<>();

        Layer(int number, Layer under) {
            this.number = number;
            this.under = under;
        }
    }

    private static final class Job {
        int number, block, place, steps, ordinal, depth, forks, failure;
        Job parent;
        boolean ended, failed, gone;
        Object result = 0L;
        long mark = 17;
        Layer present, root;
        final Object[] slots = {0L, 0L, 0L, 0L, 0L, 0L, 0L, 0L};
        final List<Object> pile = new ArrayList<>();
        final List<Long> out = new ArrayList<>();
    }

    private static final class Model {
        final List<List<Code>> blocks = new ArrayList<>();
        final List<List<Code>> mergers = new ArrayList<>();
        final int[] kinds = new int[16];
        boolean running;
        List<Job> jobs = new ArrayList<>();
        int layers, merged;

        int code(int block, int op, int a) {
            boolean fits = switch (op) {
                case 1, 2 -> a >= 0 && a < 16;
                case 12, 13 -> a >= 0 && a <= 40;
                case 14, 15, 17 -> a >= 0 && a < 8;
                default -> op >= 0 && op <= 21;
            };
            if (block < 0 || block >= blocks.size() || !fits) {
                return BAD;
            }
            return append(blocks.get(block), op, a, 40);
        }

        int append(List<Code> list, int op, int a, int most) {
            if (running) {
                return NO;
            }
            if (list.size() == most) {
                return FULL;
            }
            list.add(new Code(op, a));
            return list.size();
        }

        int act(int merger, int op, int a) {
            boolean good = merger >= 0 && merger < mergers.size() && op >= 0 && op <= 10;
            return good ? append(mergers.get(merger), op, a, 12) : BAD;
        }

        int grow(List<List<Code>> all, int most) {
            if (all.size() == most) {
                return FULL;
            }
            all.add(new ArrayList<>());
            return all.size() - 1;
        }

        Long told(int merger, long base, long ours, long theirs) {
            List<Long> pile = new ArrayList<>();
            for (Code act : mergers.get(merger)) {
                if (act.op < 4) {
                    pile.add(new long[] {base, ours, theirs, act.a}[act.op]);
                    continue;
                }
                if (pile.size() < 2) {
                    return null;
                }
                long y = pile.remove(pile.size() - 1);
                long x = pile.remove(pile.size() - 1);
                pile.add(switch (act.op) {
                    case 4 -> x + y;
                    case 5 -> x - y;
                    case 6 -> Math.min(x, y);
                    case 7 -> Math.max(x, y);
                    case 8 -> x & y;
                    case 9 -> x | y;
                    default -> x ^ y;
                });
            }
            return pile.size() == 1 ? pile.get(0) : null;
        }

        long tells(int merger, long base, long ours, long theirs) {
            if (merger < 0 || merger >= mergers.size()) {
                return -1;
            }
            Long told = told(merger, base, ours, theirs);
            return told == null ? -4 : told;
        }

        int isRight(int merger) {
            return merger < 0 || merger >= mergers.size() ? BAD : told(merger, 0, 0, 0) == null ? 0 : 1;
        }

        int kind(int cell, int k) {
            if (cell < 0 || cell > 15 || k < 0 || k > 6) {
                return BAD;
            }
            if (running || k - 3 >= mergers.size()) {
                return NO;
            }
            int was = kinds[cell];
            kinds[cell] = k;
            return was;
        }

        int start(long v) {
            boolean right = !blocks.isEmpty();
            for (int k : kinds) {
                right &= k < 3 || isRight(k - 3) == 1;
            }
            if (!right) {
                return NO;
            }
            running = true;
            jobs = new ArrayList<>();
            layers = 1;
            merged = 0;
            Job first = new Job();
            first.present = new Layer(0, null);
            first.slots[0] = v;
            jobs.add(first);
            settle(first);
            return 1;
        }

        int stop() {
            if (!running) {
                return NO;
            }
            int n = jobs.size();
            running = false;
            jobs = new ArrayList<>();
            layers = 0;
            merged = 0;
            return n;
        }

        void settle(Job j) {
            if (!j.failed && !j.ended && j.place >= blocks.get(j.block).size()) {
                j.ended = true;
            }
        }

        Job awaited(Job j) {
            if (j.ended || j.failed || j.steps >= 200 || j.pile.isEmpty()) {
                return null;
            }
            boolean joins = blocks.get(j.block).get(j.place).op == 18;
            boolean open = j.pile.get(j.pile.size() - 1) instanceof Handle h && !h.job.ended && !h.job.failed;
            return joins && open ? ((Handle) j.pile.get(j.pile.size() - 1)).job : null;
        }

        int state(Job j) {
            return j.gone ? 4 : j.failed ? 3 : j.ended ? 2 : awaited(j) != null ? 1 : 0;
        }

        List<Job> readies() {
            return jobs.stream().filter(j -> state(j) == 0).toList();
        }

        void doStep(Job j) {
            Code code = blocks.get(j.block).get(j.place);
            j.steps++;
            j.mark = 31 * j.mark + code.op;
            try {
                if (j.steps == 201) {
                    throw new Failure(6);
                }
                int next = perform(j, code.op, code.a);
                j.place = next;
            } catch (Failure f) {
                j.failed = true;
                j.failure = f.why;
            }
            settle(j);
        }

        long number(Job j) throws Failure {
            return asNumber(j.pile.remove(j.pile.size() - 1));
        }

        long asNumber(Object what) throws Failure {
            if (what instanceof Long n) {
                return n;
            }
            throw new Failure(2);
        }

        void put(Job j, Object what) throws Failure {
            if (j.pile.size() == 12) {
                throw new Failure(7);
            }
            j.pile.add(what);
        }

        void need(Job j, int n) throws Failure {
            if (j.pile.size() < n) {
                throw new Failure(8);
            }
        }

        int cell(long x) throws Failure {
            if (x < 0 || x > 15) {
                throw new Failure(9);
            }
            return (int) x;
        }

        int perform(Job j, int op, int a) throws Failure {
            int next = j.place + 1;
            if (op >= 4 && op <= 11) {
                need(j, 2);
                Object upper = j.pile.remove(j.pile.size() - 1);
                Object lower = j.pile.remove(j.pile.size() - 1);
                long y = asNumber(upper);
                long x = asNumber(lower);
                if (op == 4) {
                    j.present.versions.put(cell(x), y);
                } else {
                    put(j, binary(op, x, y));
                }
                return next;
            }
            if (op == 0) {
                put(j, (long) a);
            } else if (op == 1) {
                put(j, seen(j.present, a));
            } else if (op == 12) {
                return a;
            } else if (op == 14) {
                put(j, j.slots[a]);
                if (j.slots[a] instanceof Handle) {
                    j.slots[a] = 0L;
                }
            } else {
                need(j, 1);
                return unary(j, op, a, next);
            }
            return next;
        }

        long binary(int op, long x, long y) throws Failure {
            switch (op) {
                case 5: return x + y;
                case 6: return x - y;
                case 7: return x * y;
                case 8:
                    if (y == 0) {
                        throw new Failure(1);
                    }
                    return x / y;
                case 9: return x < y ? 1 : 0;
                case 10: return x & y;
                default: return x | y;
            }
        }

        int unary(Job j, int op, int a, int next) throws Failure {
            switch (op) {
                case 2: j.present.versions.put(a, number(j)); return next;
                case 3: put(j, seen(j.present, cell(number(j)))); return next;
                case 13: return number(j) == 0 ? a : next;
                case 15: j.slots[a] = j.pile.remove(j.pile.size() - 1); return next;
                case 16: j.pile.remove(j.pile.size() - 1); return next;
                case 17: fork(j, a, j.pile.remove(j.pile.size() - 1)); return next;
                case 18:
                    if (!(j.pile.remove(j.pile.size() - 1) instanceof Handle h)) {
                        throw new Failure(2);
                    }
                    join(j, h.job);
                    return next;
                case 19: tell(j, number(j)); return next;
                case 20:
                    j.result = j.pile.remove(j.pile.size() - 1);
                    j.ended = true;
                    return next;
                default: throw new Failure(100 + (int) Math.floorMod(number(j), 64L));
            }
        }

        void tell(Job j, long x) {
            if (j.out.size() < 60) {
                j.out.add(x);
            }
        }

        void fork(Job j, int block, Object x) throws Failure {
            if (block >= blocks.size()) {
                throw new Failure(10);
            }
            if (j.depth == 3) {
                throw new Failure(4);
            }
            if (j.forks == 3) {
                throw new Failure(5);
            }
            Layer p = j.present;
            Job n = new Job();
            j.present = new Layer(layers++, p);
            n.present = new Layer(layers++, p);
            n.root = p;
            n.number = jobs.size();
            n.block = block;
            n.parent = j;
            n.ordinal = ++j.forks;
            n.depth = j.depth + 1;
            n.slots[0] = x;
            jobs.add(n);
            settle(n);
            put(j, new Handle(n));
        }

        void join(Job j, Job t) throws Failure {
            t.gone = true;
            j.mark = 31 * j.mark + t.mark;
            for (long x : t.out) {
                tell(j, x);
            }
            if (t.failed) {
                throw new Failure(t.failure);
            }
            Set<Integer> cells = new TreeSet<>();
            for (Layer l = t.present; l != t.root; l = l.under) {
                cells.addAll(l.versions.keySet());
            }
            for (int cell : cells) {
                long base = seen(t.root, cell);
                long theirs = seen(t.present, cell);
                long ours = seen(j.present, cell);
                long now = switch (kinds[cell]) {
                    case 0 -> theirs;
                    case 1 -> ours + theirs - base;
                    case 2 -> bits(base, ours, theirs);
                    default -> told(kinds[cell] - 3, base, ours, theirs);
                };
                j.present.versions.put(cell, now);
                merged++;
            }
            put(j, t.result);
        }

        long bits(long base, long ours, long theirs) {
            long all = 0;
            for (int i = 0; i < 64; i++) {
                long bit = 1L << i;
                boolean set = (base & bit) == (theirs & bit) ? (ours & bit) != 0 : (theirs & bit) != 0;
                all |= set ? bit : 0;
            }
            return all;
        }

        long seen(Layer from, int cell) {
            for (Layer l = from; l != null; l = l.under) {
                if (l.versions.containsKey(cell)) {
                    return l.versions.get(cell);
                }
            }
            return 0;
        }

        Map<Integer, Layer> held() {
            Map<Integer, Layer> all = new TreeMap<>();
            for (Job j : jobs) {
                for (Layer l = j.gone ? null : j.present; l != null; l = l.under) {
                    all.put(l.number, l);
                }
            }
            return all;
        }

        int versionsHeld() {
            return held().values().stream().mapToInt(l -> l.versions.size()).sum();
        }

        int gather() {
            if (!running) {
                return NO;
            }
            int before = versionsHeld();
            while (gatherOne()) {
                continue;
            }
            return before - versionsHeld();
        }

        boolean gatherOne() {
            Map<Integer, Layer> held = held();
            Set<Layer> kept = new HashSet<>();
            for (Job j : jobs) {
                if (!j.gone) {
                    kept.add(j.present);
                    kept.add(j.root);
                }
            }
            for (Layer l : held.values()) {
                List<Layer> above = held.values().stream().filter(u -> u.under == l).toList();
                if (!kept.contains(l) && above.size() == 1) {
                    l.versions.forEach(above.get(0).versions::putIfAbsent);
                    above.get(0).under = l.under;
                    return true;
                }
            }
            return false;
        }

        Job job(int task) {
            return task >= 0 && task < jobs.size() ? jobs.get(task) : null;
        }

        int step(int task, int n) {
            Job j = job(task);
            if (j == null || n < 1 || n > 300) {
                return BAD;
            }
            for (int i = 0; i < n && state(j) == 0; i++) {
                doStep(j);
            }
            return state(j);
        }

        int ready(int i) {
            return i < 0 || i >= readies().size() ? NONE : readies().get(i).number;
        }

        int deep(int n) {
            if (n < 1 || n > 2000) {
                return BAD;
            }
            if (!running) {
                return NO;
            }
            int done = 0;
            while (done < n && !readies().isEmpty()) {
                doStep(readies().get(readies().size() - 1));
                done++;
            }
            return done;
        }

        int drawn(int seed, int n) {
            if (seed < 0 || n < 1 || n > 2000) {
                return BAD;
            }
            if (!running) {
                return NO;
            }
            int done = 0;
            long s = seed;
            for (List<Job> now = readies(); done < n && !now.isEmpty(); now = readies()) {
                s = (s * 1103515245L + 12345L) % (1L << 31);
                doStep(now.get((int) (s / 65536 % now.size())));
                done++;
            }
            return done;
        }

        int about(int task, int what) {
            Job j = job(task);
            if (j == null || what < 0 || what > 13) {
                return BAD;
            }
            return new int[] {state(j), j.parent == null ? NONE : j.parent.number, j.ordinal, j.steps, j.failure, j.block,
                j.place, j.depth, j.forks, j.pile.size(), j.out.size(), awaited(j) == null ? NONE : awaited(j).number,
                j.gone ? NONE : j.present.number, j.root == null ? NONE : j.root.number}[what];
        }

        long result(int task) {
            return job(task) != null && job(task).result instanceof Long n ? n : 0;
        }

        long out(int task, int i) {
            return job(task) == null || i < 0 || i >= job(task).out.size() ? 0 : job(task).out.get(i);
        }

        long read(int task, int cell) {
            Job j = job(task);
            return j == null || j.gone || cell < 0 || cell > 15 ? 0 : seen(j.present, cell);
        }

        long mark(int task) {
            return job(task) == null ? 0 : job(task).mark;
        }

        long version(int segment, int cell) {
            Layer l = held().get(segment);
            return l == null ? 0 : l.versions.getOrDefault(cell, 0L);
        }

        int below(int segment) {
            Layer l = held().get(segment);
            return l == null ? BAD : l.under == null ? NONE : l.under.number;
        }

        int count(int what) {
            return switch (what) {
                case 0 -> blocks.size();
                case 1 -> mergers.size();
                case 2 -> jobs.size();
                case 3 -> (int) jobs.stream().filter(j -> state(j) < 2).count();
                case 4 -> held().size();
                case 5 -> versionsHeld();
                case 6 -> layers;
                case 7 -> jobs.stream().mapToInt(j -> j.steps).sum();
                case 8 -> merged;
                case 9 -> running ? 1 : 0;
                default -> BAD;
            };
        }

        long digest() {
            List<Long> all = new ArrayList<>();
            for (int what = 0; what < 10; what++) {
                all.add((long) count(what));
            }
            for (int k : kinds) {
                all.add((long) k);
            }
            for (Job j : jobs) {
                for (int what = 0; what < 14; what++) {
                    all.add((long) about(j.number, what));
                }
                all.add(result(j.number));
                all.add(j.mark);
                all.addAll(j.out);
                for (int cell = 0; cell < 16; cell++) {
                    all.add(read(j.number, cell));
                }
            }
            long h = 13;
            for (long v : all) {
                h = 31 * h + v;
            }
            return h;
        }
    }

    private static final Map<String, Integer> seenOften = new HashMap<>();
    private static final List<String> calls = new ArrayList<>();

    private static void due(String call, long got, long want) {
        calls.add(call + " " + want);
        if (got != want) {
            wrong++;
            if (wrong <= 3) {
                System.out.println(String.join("\n", calls));
                System.out.println(call + " answered " + got + ", due is " + want);
            }
        }
    }

    /** Writes CODES of which most find what they need on the PILE; the sorts are followed, but not through jumps. */
    private static final class Writer {
        final Random r;
        final int block, blocks, length;
        final boolean jumps;
        /** Puts more than a PILE can hold. */
        final boolean greedy;
        final List<Code> codes = new ArrayList<>();
        final StringBuilder pile = new StringBuilder();
        final char[] slots = {'n', 'n', 'n', 'n', 'n', 'n', 'n', 'n'};
        int forks;

        Writer(Random r, int block, int blocks, boolean jumps) {
            this.r = r;
            this.block = block;
            this.blocks = blocks;
            this.jumps = jumps;
            greedy = r.nextInt(25) == 0;
            length = 3 + r.nextInt(38);
        }

        void add(int op, int a, int takes, String puts) {
            codes.add(new Code(op, a));
            pile.setLength(pile.length() - takes);
            pile.append(puts);
        }

        List<Code> written() {
            while (codes.size() < length) {
                int pick = r.nextInt(100);
                boolean handle = pile.toString().endsWith("h");
                if (pick < 1) {
                    codes.add(new Code(r.nextInt(22), r.nextInt(8)));
                } else if (jumps && pick < 5) {
                    int to = r.nextInt(12) == 0 ? 40 : Math.max(0, Math.min(40, codes.size() + 3 - r.nextInt(r.nextInt(4) == 0 ? 9 : 3)));
                    boolean asks = pile.toString().endsWith("n");
                    add(asks ? 13 : 12, to, asks ? 1 : 0, "");
                } else if (pick < 12 && slotWithHandle() >= 0) {
                    add(14, slotWithHandle(), 0, "h");
                    slots[codes.get(codes.size() - 1).a] = 'n';
                } else if (handle) {
                    onHandle(pick);
                } else {
                    onNumbers(pick);
                }
            }
            return codes;
        }

        int slotWithHandle() {
            return new String(slots).indexOf('h');
        }

        int child() {
            return r.nextInt(8) == 0 ? r.nextInt(8) : Math.min(blocks - 1, block + 1 + r.nextInt(2));
        }

        boolean mayFork() {
            return r.nextInt(30) == 0 || (block < 3 && block < blocks - 1 && forks < 3);
        }

        void onHandle(int pick) {
            if (pick < 45) {
                add(18, 0, 1, r.nextInt(6) == 0 ? "h" : "n");
            } else if (pick < 65) {
                int slot = 1 + r.nextInt(7);
                add(15, slot, 1, "");
                slots[slot] = 'h';
            } else if (pick < 75 && mayFork()) {
                add(17, child(), 1, "h");
                forks++;
            } else if (pick < 78) {
                add(16, 0, 1, "");
            } else if (pick < 81) {
                add(20, 0, 1, "");
            } else {
                puts();
            }
        }

        void onNumbers(int pick) {
            if (greedy && pick < 90) {
                puts();
            } else if (pile.length() > 0 && pick < 30 && mayFork()) {
                add(17, child(), 1, "h");
                forks++;
            } else if (pile.toString().endsWith("nn") && pick < 45) {
                int op = 5 + r.nextInt(7);
                add(op == 8 && r.nextInt(3) > 0 ? 7 : op, 0, 2, "n");
            } else if (pile.length() > 0 && pick < 65) {
                int[] ops = {2, 2, 2, 2, 2, 15, 19, 16, 20, 21};
                int op = ops[r.nextInt(codes.size() > length - 4 ? 10 : 8)];
                add(op, op == 15 ? r.nextInt(8) : r.nextInt(4), 1, "");
                if (op == 15) {
                    slots[codes.get(codes.size() - 1).a] = 'n';
                }
            } else if (pick < 72 && codes.size() + 3 <= length && pile.length() < 11) {
                add(0, r.nextInt(60) == 0 ? 16 : r.nextInt(16), 0, "n");
                if (r.nextBoolean()) {
                    add(3, 0, 1, "n");
                } else {
                    add(0, r.nextInt(), 0, "n");
                    add(4, 0, 2, "");
                }
            } else {
                puts();
            }
        }

        void puts() {
            if (pile.length() >= 12 && !greedy && r.nextInt(4) > 0) {
                add(16, 0, 1, "");
                return;
            }
            int op = new int[] {0, 0, 1, 1, 14}[r.nextInt(5)];
            int a = op == 0 ? r.nextInt(3) == 0 ? r.nextInt() : r.nextInt(20) - 4 : r.nextInt(4);
            add(op, a, 0, op == 14 ? String.valueOf(slots[a]) : "n");
            if (op == 14) {
                slots[a] = 'n';
            }
        }
    }

    private static void program(Random r, BranchCells x, Model m) {
        int blocks = 1 + r.nextInt(8);
        boolean jumps = r.nextBoolean();
        for (int b = 0; b < blocks; b++) {
            due("block()", x.block(), m.grow(m.blocks, 8));
            if (r.nextInt(12) == 0) {
                continue;
            }
            for (Code c : new Writer(r, b, blocks, jumps).written()) {
                due("code(" + b + ", " + c.op + ", " + c.a + ")", x.code(b, c.op, c.a), m.code(b, c.op, c.a));
            }
        }
        for (int i = r.nextInt(5); i > 0; i--) {
            due("merger()", x.merger(), m.grow(m.mergers, 4));
            int id = m.mergers.size() - 1;
            int size = 0;
            for (int k = r.nextInt(11); k >= 0 || size > 1; k--) {
                int op = size > 1 && (k < size || r.nextBoolean()) ? 4 + r.nextInt(7) : r.nextInt(4);
                size += op < 4 ? 1 : -1;
                int a = r.nextInt(50) - 20;
                due("act(" + id + ", " + op + ", " + a + ")", x.act(id, op, a), m.act(id, op, a));
            }
            due("isRight(" + id + ")", x.isRight(id), m.isRight(id));
        }
        for (int cell = 0; cell < 16; cell++) {
            int k = r.nextInt(7);
            due("kind(" + cell + ", " + k + ")", x.kind(cell, k), m.kind(cell, k));
        }
        for (int cell = 0; cell < 16; cell++) {
            if (m.kinds[cell] >= 3 && m.isRight(m.kinds[cell] - 3) == 0 && r.nextInt(30) > 0) {
                due("kind(" + cell + ", 1)", x.kind(cell, 1), m.kind(cell, 1));
            }
        }
    }

    private static int near(Random r, int most) {
        return r.nextInt(20) == 0 ? (r.nextBoolean() ? r.nextInt() : -1) : r.nextInt(most + 2);
    }

    private static void anyCall(Random r, BranchCells x, Model m) {
        int t = near(r, m.jobs.size());
        int c = near(r, 16);
        int s = near(r, m.layers);
        int n = r.nextInt(4) == 0 ? near(r, 300) : 1 + r.nextInt(12);
        switch (r.nextInt(22)) {
            case 0, 1, 2, 3 -> due("step(" + t + ", " + n + ")", x.step(t, n), m.step(t, n));
            case 4 -> due("deep(" + n + ")", x.deep(n), m.deep(n));
            case 5, 6, 7 -> due("drawn(" + t * 7 + ", " + n + ")", x.drawn(t * 7, n), m.drawn(t * 7, n));
            case 8, 9 -> due("gather()", x.gather(), m.gather());
            case 10 -> due("version(" + s + ", " + c + ")", x.version(s, c), m.version(s, c));
            case 11 -> due("below(" + s + ")", x.below(s), m.below(s));
            case 12 -> due("count(" + c + ")", x.count(c), m.count(c));
            case 13 -> due("about(" + t + ", " + c + ")", x.about(t, c), m.about(t, c));
            case 14 -> due("read(" + t + ", " + c + ")", x.read(t, c), m.read(t, c));
            case 15 -> due("out(" + t + ", " + c + ")", x.out(t, c), m.out(t, c));
            case 16 -> due("result(" + t + ")", x.result(t), m.result(t));
            case 17 -> due("mark(" + t + ")", x.mark(t), m.mark(t));
            case 18 -> due("ready(" + t + ")", x.ready(t), m.ready(t));
            case 19 -> due("tells(" + c + ", ..)", x.tells(c % 5, t, s, n), m.tells(c % 5, t, s, n));
            case 20 -> rareCall(r, x, m, t, c);
            default -> due("digest()", x.digest(), m.digest());
        }
    }

    private static void rareCall(Random r, BranchCells x, Model m, int t, int c) {
        switch (r.nextInt(9)) {
            case 0 -> due("start(" + t + ")", x.start(t), m.start(t));
            case 1 -> due("stop()", x.stop(), m.stop());
            case 2 -> due("block()", x.block(), m.grow(m.blocks, 8));
            case 3 -> due("merger()", x.merger(), m.grow(m.mergers, 4));
            case 4 -> due("code(" + t + ", " + c + ", " + t + ")", x.code(t, c, t), m.code(t, c, t));
            case 5 -> due("act(" + t + ", " + c + ", 3)", x.act(t, c, 3), m.act(t, c, 3));
            case 6 -> due("kind(" + c + ", " + t + ")", x.kind(c, t), m.kind(c, t));
            case 7 -> due("isRight(" + t + ")", x.isRight(t), m.isRight(t));
            default -> due("drawn(5, 2000)", x.drawn(5, 2000), m.drawn(5, 2000));
        }
    }

    private static void note(Model m) {
        for (Job j : m.jobs) {
            seenOften.merge("state " + m.state(j), 1, Integer::sum);
            seenOften.merge("failure " + Math.min(j.failure, 100), 1, Integer::sum);
            seenOften.merge("depth " + j.depth, 1, Integer::sum);
            seenOften.merge(j.result instanceof Handle ? "handle as result" : "number as result", 1, Integer::sum);
        }
        seenOften.merge("merged", m.merged, Integer::sum);
    }

    private static void oneRun(int seed) {
        Random r = new Random(seed);
        BranchCells x = new BranchCells();
        Model m = new Model();
        calls.clear();
        calls.add("seed " + seed);
        program(r, x, m);
        due("start(7)", x.start(7), m.start(7));
        for (int i = 0; i < 100; i++) {
            anyCall(r, x, m);
        }
        due("digest()", x.digest(), m.digest());
        for (int s = 0; s < 80; s++) {
            due("below(" + s + ")", x.below(s), m.below(s));
            for (int cell = 0; cell < 16; cell++) {
                due("version(" + s + ", " + cell + ")", x.version(s, cell), m.version(s, cell));
            }
        }
        note(m);
    }

    /** What TASK 0 came to: the numbers of TASKS and SEGMENTS hang on the schedule, this does not. */
    private static String end(BranchCells x) {
        StringBuilder all = new StringBuilder();
        for (int what : new int[] {0, 3, 4, 6, 8, 9, 10}) {
            all.append(x.about(0, what)).append(' ');
        }
        all.append(x.result(0)).append(' ').append(x.mark(0));
        for (int i = 0; i < 60; i++) {
            all.append(' ').append(x.out(0, i));
        }
        for (int cell = 0; cell < 16; cell++) {
            all.append(' ').append(x.read(0, cell));
        }
        return all.append(' ').append(x.count(7)).append(' ').append(x.count(8)).append(' ').append(x.count(2)).toString();
    }

    private static void schedules(int seed) {
        Random r = new Random(seed);
        BranchCells x = new BranchCells();
        calls.clear();
        program(r, x, new Model());
        if (x.start(3) != 1) {
            return;
        }
        while (x.deep(2000) > 0) {
            continue;
        }
        String want = end(x);
        for (int i = 0; i < 4; i++) {
            x.start(3);
            while (x.drawn(seed + i, 1 + i * 7) > 0) {
                if (i % 2 == 1) {
                    x.gather();
                }
            }
            if (!end(x).equals(want)) {
                wrong++;
                System.out.println("seed " + seed + ": another schedule, another end: " + end(x) + ", not " + want);
            }
        }
    }

    public static void main(String[] args) {
        for (int seed = 0; seed < 3000; seed++) {
            oneRun(seed);
            schedules(seed);
        }
        String[] needed = {"state 0", "state 1", "state 2", "state 3", "state 4", "failure 1", "failure 2", "failure 4", "failure 5",
            "failure 6", "failure 7", "failure 8", "failure 9", "failure 10", "failure 100", "depth 3", "handle as result", "merged"};
        for (String what : needed) {
            if (seenOften.getOrDefault(what, 0) < 20) {
                wrong++;
                System.out.println("the random runs hardly reach " + what);
            }
        }
        if (args.length > 0) {
            System.out.println(new TreeMap<>(seenOften));
        }
        System.out.println(wrong == 0 ? "all answers are as due" : wrong + " answers are not as due");
        if (wrong != 0) {
            System.exit(1);
        }
    }
}
