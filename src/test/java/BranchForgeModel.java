import java.util.ArrayList;
import java.util.HashSet;
import java.util.List;
import java.util.Random;
import java.util.Set;

/**
 * Compares BranchForge with a plain model of the document on many made-up runs of calls. The model is built another
 * way than the program: it writes code as lists of instructions, goes by floats, and never runs bytes.
 */
public final class BranchForgeModel {
    private static final int RUNS = 6000;
    private static final int CALLS_MAX = 512;
    private static final int WRONG_MAX = 40;

    private record Node(boolean isLeaf, int rule, int feature, int bits, int yes, int no) { }

    /** An instruction: its bytes but for the number of the entry, which only its class settles. */
    private record Instruction(int operation, int kind, int bits, int[] places) {
        int length() {
            return operation == 3 ? 1 : 2 + Math.max(0, places.length - 1);
        }
    }

    /** A fault found while checking; thrown to end the walk at once. */
    private static final class Fault extends RuntimeException {
        private static final long serialVersionUID = 1L;
        private final int answer;

        Fault(int kind, int node) {
            answer = -(100 * kind + node);
        }
    }

    private static final class Model {
        private final List<Node> nodes = new ArrayList<>();
        private final List<Integer> roots = new ArrayList<>();
        private final int[] features = new int[8];
        private List<List<Instruction>> methods = new ArrayList<>();
        private List<Integer> homes = new ArrayList<>();
        private List<List<Long>> tables = new ArrayList<>();
        private Set<Integer> cut = new HashSet<>();
        private int codeTrees;
        private int steps;
        private int calls;

        int addNode(Node node) {
            if (nodes.size() == 60) {
                return -1;
            }
            nodes.add(node);
            return nodes.size() - 1;
        }

        int leaf(int value) {
            return addNode(new Node(true, 0, 0, value, 0, 0));
        }

        int split(int rule, int feature, int mark, int yes, int no) {
            float asFloat = Float.intBitsToFloat(mark);
            if (rule < 0 || rule > 5 || feature < 0 || feature > 7 || yes < 0 || yes > 59 || no < 0 || no > 59
                || rule < 4 && (Float.isNaN(asFloat) || Float.isInfinite(asFloat))) {
                return -1;
            }
            return addNode(new Node(false, rule, feature, mark, yes, no));
        }

        int tree(int root) {
            if (roots.size() == 8 || root < 0 || root >= nodes.size()) {
                return -1;
            }
            roots.add(root);
            return roots.size() - 1;
        }

        int compile(int limit, int entries) {
            if (limit < 20 || limit > 400 || entries > 60 || entries < 60 && entries < limit / 4 || roots.isEmpty()) {
                return -1;
            }
            try {
                Set<Integer> seen = new HashSet<>();
                for (int root : roots) {
                    check(root, 0, seen);
                }
            } catch (Fault fault) {
                return fault.answer;
            }
            methods = new ArrayList<>();
            cut = new HashSet<>();
            for (int root : roots) {
                List<Instruction> code = codeOf(root, limit);
                methods.add(code);
            }
            codeTrees = roots.size();
            makeTables(entries);
            return methods.size();
        }

        private void check(int n, int above, Set<Integer> seen) {
            if (!seen.add(n)) {
                throw new Fault(2, n);
            }
            if (above > 12) {
                throw new Fault(3, n);
            }
            Node node = nodes.get(n);
            if (node.isLeaf()) {
                return;
            }
            if (node.yes() >= nodes.size() || node.no() >= nodes.size()) {
                throw new Fault(1, n);
            }
            check(node.yes(), above + 1, seen);
            check(node.no(), above + 1, seen);
        }

        private List<Instruction> codeOf(int n, int limit) {
            Node node = nodes.get(n);
            List<Instruction> code = new ArrayList<>();
            if (node.isLeaf()) {
                code.add(new Instruction(2, 2, node.bits(), new int[0]));
                code.add(new Instruction(3, 0, 0, new int[0]));
                return code;
            }
            List<Instruction> yes = codeOf(node.yes(), limit);
            List<Instruction> no = codeOf(node.no(), limit);
            code = join(node, yes, no);
            if (lengthOf(code) > limit) {
                boolean yesLonger = lengthOf(yes) >= lengthOf(no);
                if (yesLonger) {
                    yes = cutOut(node.yes(), yes);
                } else {
                    no = cutOut(node.no(), no);
                }
                code = join(node, yes, no);
                if (lengthOf(code) > limit) {
                    if (yesLonger) {
                        no = cutOut(node.no(), no);
                    } else {
                        yes = cutOut(node.yes(), yes);
                    }
                    code = join(node, yes, no);
                }
            }
            return code;
        }

        private List<Instruction> cutOut(int n, List<Instruction> code) {
            methods.add(code);
            cut.add(n);
            List<Instruction> part = new ArrayList<>();
            part.add(new Instruction(4, 4, methods.size() - 1, new int[0]));
            part.add(new Instruction(3, 0, 0, new int[0]));
            return part;
        }

        private static List<Instruction> join(Node node, List<Instruction> yes, List<Instruction> no) {
            List<Instruction> code = new ArrayList<>();
            code.add(new Instruction(1, 0, 0, new int[] {node.feature()}));
            code.add(new Instruction(2, node.rule() < 4 ? 1 : 3, node.bits(), new int[0]));
            int over = lengthOf(yes);
            if (over + 2 <= 63) {
                code.add(new Instruction(10 + node.rule(), 0, 0, new int[] {over + 2}));
            } else {
                code.add(new Instruction(20 + node.rule(), 0, 0, new int[] {(over + 3) / 256, (over + 3) % 256}));
            }
            code.addAll(yes);
            code.addAll(no);
            return code;
        }

        private static int lengthOf(List<Instruction> code) {
            int length = 0;
            for (Instruction instruction : code) {
                length += instruction.length();
            }
            return length;
        }

        private static long entryOf(Instruction instruction) {
            return instruction.kind() * 4294967296L + Integer.toUnsignedLong(instruction.bits());
        }

        private void makeTables(int allowed) {
            tables = new ArrayList<>();
            homes = new ArrayList<>();
            for (List<Instruction> method : methods) {
                List<Long> table = tables.isEmpty() ? new ArrayList<>() : tables.get(tables.size() - 1);
                List<Long> larger = withNeeds(table, method);
                if (tables.isEmpty()) {
                    tables.add(larger);
                } else if (larger.size() > allowed) {
                    tables.add(withNeeds(new ArrayList<>(), method));
                } else {
                    tables.set(tables.size() - 1, larger);
                }
                homes.add(tables.size() - 1);
            }
        }

        private static List<Long> withNeeds(List<Long> table, List<Instruction> method) {
            List<Long> larger = new ArrayList<>(table);
            for (Instruction instruction : method) {
                if (instruction.kind() != 0 && !larger.contains(entryOf(instruction))) {
                    larger.add(entryOf(instruction));
                }
            }
            return larger;
        }

        int length(int m) {
            return m >= 0 && m < methods.size() ? lengthOf(methods.get(m)) : -1;
        }

        int byteAt(int m, int p) {
            if (m < 0 || m >= methods.size() || p < 0) {
                return -1;
            }
            List<Integer> bytes = new ArrayList<>();
            for (Instruction instruction : methods.get(m)) {
                bytes.add(instruction.operation());
                if (instruction.kind() != 0) {
                    bytes.add(tables.get(homes.get(m)).indexOf(entryOf(instruction)));
                }
                for (int place : instruction.places()) {
                    bytes.add(place);
                }
            }
            return p < bytes.size() ? bytes.get(p) : -1;
        }

        int classOf(int m) {
            return m >= 0 && m < homes.size() ? homes.get(m) : -1;
        }

        int entries(int c) {
            return c >= 0 && c < tables.size() ? tables.get(c).size() : -1;
        }

        long entry(int c, int k) {
            return k >= 0 && k < entries(c) ? tables.get(c).get(k) : -1;
        }

        boolean set(int f, int bits) {
            if (f < 0 || f > 7) {
                return false;
            }
            features[f] = bits;
            return true;
        }

        private boolean goesToYes(Node node) {
            float x = Float.intBitsToFloat(features[node.feature()]);
            float mark = Float.intBitsToFloat(node.bits());
            if (Float.isNaN(x)) {
                return node.rule() % 2 == 1;
            }
            return switch (node.rule()) {
                case 0, 1 -> x < mark;
                case 2, 3 -> x <= mark;
                default -> x >= 0 && x < 32 && x == (int) x && (node.bits() & 1L << (int) x) != 0;
            };
        }

        int reach(int t) {
            if (t < 0 || t >= codeTrees) {
                return -1;
            }
            int n = roots.get(t);
            while (!nodes.get(n).isLeaf()) {
                n = goesToYes(nodes.get(n)) ? nodes.get(n).yes() : nodes.get(n).no();
            }
            return n;
        }

        long predict() {
            steps = 0;
            calls = 0;
            long sum = 0;
            for (int t = 0; t < codeTrees; t++) {
                int n = roots.get(t);
                while (!nodes.get(n).isLeaf()) {
                    steps += 3;
                    n = goesToYes(nodes.get(n)) ? nodes.get(n).yes() : nodes.get(n).no();
                    if (cut.contains(n)) {
                        calls++;
                        steps += 2;
                    }
                }
                steps += 2;
                sum += nodes.get(n).bits();
            }
            return sum;
        }
    }

    /** One run: the program and the model side by side. */
    private static final class Run {
        private final int number;
        private final Random random;
        private final BranchForge forge = new BranchForge();
        private final Model model = new Model();
        private final StringBuilder story = new StringBuilder();
        private int done;
        private int wrong;

        Run(int number) {
            this.number = number;
            random = new Random(number * 7919L + 17);
        }

        private long due(String call, long got, long want) {
            done++;
            story.append(call).append(" -> ").append(want).append('\n');
            if (got != want) {
                wrong++;
                System.out.println("run " + number + ": " + call + " answered " + got + ", due is " + want);
            }
            return want;
        }

        private boolean isOver() {
            return wrong > 0 || done >= CALLS_MAX - 4;
        }

        void leaf(int value) {
            due("leaf(" + value + ")", forge.leaf(value), model.leaf(value));
        }

        void split(int rule, int feature, int mark, int yes, int no) {
            String call = "split(" + rule + ", " + feature + ", " + mark + ", " + yes + ", " + no + ")";
            due(call, forge.split(rule, feature, mark, yes, no), model.split(rule, feature, mark, yes, no));
        }

        void tree(int root) {
            due("tree(" + root + ")", forge.tree(root), model.tree(root));
        }

        void compile(int limit, int entries) {
            long got = forge.compile(limit, entries);
            due("compile(" + limit + ", " + entries + ")", got, model.compile(limit, entries));
        }

        void set(int f, int bits) {
            due("set(" + f + ", " + bits + ")", forge.set(f, bits) ? 1 : 0, model.set(f, bits) ? 1 : 0);
        }

        void predict() {
            due("predict()", forge.predict(), model.predict());
            due("steps()", forge.steps(), model.steps);
            due("calls()", forge.calls(), model.calls);
        }

        void reach(int t) {
            due("reach(" + t + ")", forge.reach(t), model.reach(t));
        }

        private int anyBits() {
            int[] some = {0, Integer.MIN_VALUE, 1, -1, Integer.MAX_VALUE, 0x7f800000, 0x7f800001, 0xff800000,
                0xff800001, 0x7f7fffff, 0xff7fffff, 0x3f800000, 0xbf800000, 2, 3, 5};
            return switch (random.nextInt(6)) {
                case 0 -> random.nextInt();
                case 1 -> some[random.nextInt(some.length)];
                case 2 -> Float.floatToIntBits(random.nextInt(70) / 2.0f);
                default -> Float.floatToIntBits(random.nextInt(36) - 2);
            };
        }

        /** Few different bits, so that entries are alike now and then, also across kinds. */
        private int mark(int rule) {
            int bits = random.nextInt(3) == 0 ? random.nextInt(6) : anyBits();
            return rule < 4 && (bits & Integer.MAX_VALUE) >= 0x7f800000 ? 4 : bits;
        }

        /** The nodes of trees without a fault, dealt to numbers in a mixed order; then a few changes, now and then. */
        void makeTrees() {
            int room = 1 + random.nextInt(60);
            int[][] shape = new int[60][];
            int[] depth = new int[60];
            List<Integer> rootPlaces = new ArrayList<>();
            List<Integer> open = new ArrayList<>();
            int made = 0;
            int trees = random.nextInt(3) == 0 ? 1 + random.nextInt(8) : 1;
            for (int t = 0; t < trees && made < room; t++) {
                rootPlaces.add(made);
                open.add(made);
                made++;
            }
            int lean = random.nextInt(4);
            int deepest = random.nextInt(12) == 0 ? 14 : 12;
            while (made + 2 <= room && !open.isEmpty()) {
                int pick = lean == 0 ? open.size() - 1 : lean == 1 ? 0 : random.nextInt(open.size());
                int place = open.remove(pick);
                if (depth[place] >= deepest) {
                    continue;
                }
                boolean swapped = lean == 3 && random.nextBoolean();
                shape[place] = new int[] {made + (swapped ? 1 : 0), made + (swapped ? 0 : 1)};
                for (int child = 0; child < 2; child++) {
                    depth[made] = depth[place] + 1;
                    open.add(made);
                    made++;
                }
            }
            int[] numberOf = mixed(made);
            int[] placeOf = new int[made];
            for (int place = 0; place < made; place++) {
                placeOf[numberOf[place]] = place;
            }
            boolean spoil = random.nextInt(5) == 0;
            for (int n = 0; n < made && !isOver(); n++) {
                makeNode(shape[placeOf[n]], numberOf, spoil);
            }
            for (int place : rootPlaces) {
                tree(spoil && random.nextInt(6) == 0 ? random.nextInt(62) - 1 : numberOf[place]);
            }
        }

        private int[] mixed(int count) {
            int[] numbers = new int[count];
            for (int i = 0; i < count; i++) {
                int j = random.nextInt(i + 1);
                numbers[i] = numbers[j];
                numbers[j] = i;
            }
            return numbers;
        }

        private void makeNode(int[] children, int[] numberOf, boolean spoil) {
            if (children == null) {
                leaf(random.nextBoolean() ? random.nextInt(6) : random.nextInt());
                return;
            }
            int rule = random.nextInt(6);
            int yes = numberOf[children[0]];
            int no = numberOf[children[1]];
            if (spoil && random.nextInt(8) == 0) {
                yes = random.nextInt(60);
            }
            if (spoil && random.nextInt(8) == 0) {
                no = random.nextInt(60);
            }
            split(rule, random.nextInt(8), mark(rule), yes, no);
        }

        void compileSomehow() {
            int limit = switch (random.nextInt(4)) {
                case 0 -> 20 + random.nextInt(15);
                case 1 -> 20 + random.nextInt(381);
                default -> 20 + random.nextInt(90);
            };
            int least = Math.min(60, limit / 4);
            int entries = random.nextInt(3) == 0 ? 60 : least + random.nextInt(61 - least);
            if (random.nextInt(12) == 0) {
                limit = 15 + random.nextInt(10);
                entries = random.nextInt(8);
            }
            compile(limit, entries);
        }

        void lookAtCode() {
            due("methods()", forge.methods(), model.methods.size());
            due("classes()", forge.classes(), model.tables.size());
            for (int m = -1; m <= model.methods.size() && !isOver(); m++) {
                due("length(" + m + ")", forge.length(m), model.length(m));
                due("classOf(" + m + ")", forge.classOf(m), model.classOf(m));
            }
            for (int c = -1; c <= model.tables.size() && !isOver(); c++) {
                due("entries(" + c + ")", forge.entries(c), model.entries(c));
            }
        }

        void lookAtBytes(int times) {
            for (int i = 0; i < times && !isOver(); i++) {
                int m = random.nextInt(model.methods.size() + 1);
                int p = random.nextInt(Math.max(1, model.length(m) + 2)) - 1;
                due("byteAt(" + m + ", " + p + ")", forge.byteAt(m, p), model.byteAt(m, p));
                int c = random.nextInt(model.tables.size() + 1);
                int k = random.nextInt(Math.max(1, model.entries(c) + 2)) - 1;
                due("entry(" + c + ", " + k + ")", forge.entry(c, k), model.entry(c, k));
            }
        }

        void useCode() {
            for (int i = 0; i < 6 && !isOver(); i++) {
                for (int f = 0; f < 4; f++) {
                    set(random.nextInt(9) - (random.nextInt(20) == 0 ? 1 : 0), anyBits());
                }
                predict();
                reach(random.nextInt(model.roots.size() + 2) - 1);
            }
        }

        private void addLater() {
            if (random.nextInt(3) == 0) {
                leaf(random.nextInt(9));
                tree(random.nextInt(model.nodes.size() + 1));
            }
        }

        int go() {
            makeTrees();
            while (!isOver()) {
                compileSomehow();
                lookAtCode();
                lookAtBytes(15 + random.nextInt(60));
                useCode();
                addLater();
            }
            return wrong;
        }
    }

    public static void main(String[] args) {
        int wrong = 0;
        for (int run = 1; run <= RUNS && wrong < WRONG_MAX; run++) {
            Run one = new Run(run);
            int wrongHere = one.go();
            if (wrongHere > 0 && wrong == 0) {
                System.out.println("the first wrong run, with the answers that are due:\n" + one.story);
            }
            wrong += wrongHere;
        }
        System.out.println(wrong == 0 ? "all answers are as due" : wrong + " answers are not as due");
        if (wrong != 0) {
            System.exit(1);
        }
    }
}
