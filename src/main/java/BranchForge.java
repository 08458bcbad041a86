/**
 * Turns decision trees into code for a small stack machine and runs that code on a row of features.
 *
 * <p>A compile goes through four stages, each a class of its own: Checker looks for faults, Cutter says which nodes
 * get a method, Code writes the bytes, and Tables holds the constants that the bytes point to. Machine runs the result.
 */
public final class BranchForge {
    public static final int DANGLING = 1, TWICE = 2, DEEP = 3;

    private static final int NODES_MAX = 60;
    private static final int TREES_MAX = 8;
    private static final int FEATURES = 8;
    private static final int DEPTH_MAX = 12;
    private static final int LIMIT_MIN = 20;
    private static final int LIMIT_MAX = 400;
    private static final int ENTRIES_MAX = 60;

    private static final int NONE = -1;
    private static final int RULES = 6;
    private static final int FIRST_BIT_RULE = 4;
    private static final int LEAF_RULE = -1;

    private static final int MAGNITUDE = 2147483647;
    private static final int INFINITE = 2139095040;

    private static final int LOAD = 1;
    private static final int CONSTANT = 2;
    private static final int RETURN = 3;
    private static final int CALL = 4;
    private static final int NEAR_TEST = 10;
    private static final int FAR_TEST = 20;
    private static final int NEAR_TEST_LENGTH = 2;
    private static final int FAR_TEST_LENGTH = 3;
    private static final int NEAR_MAX = 63;
    /** LOAD and CONSTANT, which stand before every TEST. */
    private static final int BEFORE_TEST_LENGTH = 4;
    /** CONSTANT and RETURN of a leaf, and just so CALL and RETURN of a child that was cut out. */
    private static final int SHORT_PART_LENGTH = 3;

    private static final int ORDER_MARK = 1;
    private static final int LEAF_VALUE = 2;
    private static final int BIT_MARK = 3;
    private static final int METHOD_NUMBER = 4;

    /** No node stands in two places, so each costs at most a split's own bytes and one CALL with its RETURN. */
    private static final int BYTES_ROOM = NODES_MAX * (BEFORE_TEST_LENGTH + FAR_TEST_LENGTH + SHORT_PART_LENGTH);
    /** For the same reason each node needs at most one entry of its own and one for the CALL that leads to it. */
    private static final int ENTRIES_ROOM = NODES_MAX * 2;

    private final int[] features;
    private final Forest forest;
    private final Checker checker;
    private final Cutter cutter;
    private final Tables tables;
    private final Code code;
    private final Machine machine;

    public BranchForge() {
        features = new int[FEATURES];
        forest = new Forest();
        checker = new Checker(forest);
        cutter = new Cutter(forest);
        tables = new Tables();
        code = new Code(forest, cutter, tables);
        machine = new Machine(code, tables, features);
    }

    public int leaf(int value) {
        return forest.addNode(LEAF_RULE, 0, value, NONE, NONE);
    }

    public int split(int rule, int feature, int mark, int yes, int no) {
        if (rule < 0 || rule >= RULES || !isFeature(feature) || !Rules.takesMark(rule, mark)) {
            return NONE;
        }
        if (!isNodeNumber(yes) || !isNodeNumber(no)) {
            return NONE;
        }
        return forest.addNode(rule, feature, mark, yes, no);
    }

    public int tree(int root) {
        return forest.addTree(root);
    }

    public int compile(int limit, int entries) {
        if (limit < LIMIT_MIN || limit > LIMIT_MAX || !isTableSize(entries, limit) || forest.treeCount == 0) {
            return NONE;
        }
        int fault = checker.firstFault();
        if (fault != 0) {
            return -fault;
        }
        cutter.cutTrees(limit);
        code.writeMethods(entries);
        return code.methodCount;
    }

    public int methods() {
        return code.methodCount;
    }

    public int length(int m) {
        return code.isMethod(m) ? code.startOf[m + 1] - code.startOf[m] : NONE;
    }

    public int byteAt(int m, int p) {
        return p >= 0 && p < length(m) ? code.bytes[code.startOf[m] + p] : NONE;
    }

    public int classOf(int m) {
        return code.isMethod(m) ? code.homeOf[m] : NONE;
    }

    public int classes() {
        return tables.classCount;
    }

    public int entries(int c) {
        return tables.isClass(c) ? tables.sizeOf(c) : NONE;
    }

    public long entry(int c, int k) {
        if (!tables.holds(c, k)) {
            return NONE;
        }
        int place = tables.startOf[c] + k;
        return ((long) tables.kindAt[place] << 32) + (tables.bitsAt[place] & 4294967295L);
    }

    public boolean set(int f, int bits) {
        if (!isFeature(f)) {
            return false;
        }
        features[f] = bits;
        return true;
    }

    public long predict() {
        return machine.runTrees();
    }

    public int steps() {
        return machine.stepCount;
    }

    public int calls() {
        return machine.callCount;
    }

    public int reach(int t) {
        return t >= 0 && t < code.treeCount ? forest.leafFor(forest.rootOf[t], features) : NONE;
    }

    private static boolean isFeature(int f) {
        return f >= 0 && f < FEATURES;
    }

    private static boolean isNodeNumber(int n) {
        return n >= 0 && n < NODES_MAX;
    }

    /** No method of limit bytes needs more than limit / 4 entries, and none needs 60: each fits a new table. */
    private static boolean isTableSize(int size, int limit) {
        return size == ENTRIES_MAX || size < ENTRIES_MAX && size >= limit / 4;
    }

    /** Where a feature goes at a split. */
    private static final class Rules {
        static boolean takesMark(int rule, int mark) {
            return isBitRule(rule) || (mark & MAGNITUDE) < INFINITE;
        }

        static boolean isBitRule(int rule) {
            return rule >= FIRST_BIT_RULE;
        }

        static boolean goesToYes(int rule, int bits, int mark) {
            if ((bits & MAGNITUDE) > INFINITE) {
                return (rule & 1) == 1;
            }
            if (isBitRule(rule)) {
                int whole = wholeOf(bits);
                return whole != NONE && (mark >>> whole & 1) == 1;
            }
            return rule < 2 ? orderOf(bits) < orderOf(mark) : orderOf(bits) <= orderOf(mark);
        }

        private static int orderOf(int bits) {
            return bits >= 0 ? bits : -(bits & MAGNITUDE);
        }

        /** The whole number 0 .. 31 that the bits stand for, or NONE. */
        private static int wholeOf(int bits) {
            if ((bits & MAGNITUDE) == 0) {
                return 0;
            }
            // A negative number's sign bit makes its exponent far too large here, so it needs no test of its own.
            int exponent = (bits >>> 23) - 127;
            if (exponent < 0 || exponent > 4) {
                return NONE;
            }
            int digits = bits & 8388607 | 8388608;
            int whole = digits >> 23 - exponent;
            return whole << 23 - exponent == digits ? whole : NONE;
        }
    }

    /** The nodes and the trees. What has been added is never changed, so code that was made from it stays true. */
    private static final class Forest {
        private final int[] ruleOf = new int[NODES_MAX];
        private final int[] featureOf = new int[NODES_MAX];
        /** A leaf's value or a split's mark. */
        private final int[] bitsOf = new int[NODES_MAX];
        private final int[] yesOf = new int[NODES_MAX];
        private final int[] noOf = new int[NODES_MAX];
        private final int[] rootOf = new int[TREES_MAX];
        private int nodeCount;
        private int treeCount;

        int addNode(int rule, int feature, int bits, int yes, int no) {
            if (nodeCount >= NODES_MAX) {
                return NONE;
            }
            ruleOf[nodeCount] = rule;
            featureOf[nodeCount] = feature;
            bitsOf[nodeCount] = bits;
            yesOf[nodeCount] = yes;
            noOf[nodeCount] = no;
            nodeCount++;
            return nodeCount - 1;
        }

        int addTree(int root) {
            if (treeCount >= TREES_MAX || !isNode(root)) {
                return NONE;
            }
            rootOf[treeCount] = root;
            treeCount++;
            return treeCount - 1;
        }

        boolean isNode(int n) {
            return n >= 0 && n < nodeCount;
        }

        boolean isLeaf(int n) {
            return ruleOf[n] == LEAF_RULE;
        }

        int kindOfEntry(int n) {
            if (isLeaf(n)) {
                return LEAF_VALUE;
            }
            return Rules.isBitRule(ruleOf[n]) ? BIT_MARK : ORDER_MARK;
        }

        /** The leaf that the features come to from a root; only for trees without a fault. */
        int leafFor(int root, int[] features) {
            int node = root;
            for (int depth = 0; depth <= DEPTH_MAX && !isLeaf(node); depth++) {
                boolean yes = Rules.goesToYes(ruleOf[node], features[featureOf[node]], bitsOf[node]);
                node = yes ? yesOf[node] : noOf[node];
            }
            return node;
        }
    }

    /** Looks for the first fault of the ensemble. */
    private static final class Checker {
        private final Forest forest;
        private final boolean[] cameTo = new boolean[NODES_MAX];

        Checker(Forest forest) {
            this.forest = forest;
        }

        /** 100 * kind + node of the first fault, or 0 when there is none. */
        int firstFault() {
            for (int n = 0; n < NODES_MAX; n++) {
                cameTo[n] = false;
            }
            int fault = 0;
            for (int t = 0; t < forest.treeCount && fault == 0; t++) {
                fault = faultFrom(forest.rootOf[t], 0);
            }
            return fault;
        }

        /** Goes no deeper than DEEP allows, since a fault at a node ends the search there. */
        private int faultFrom(int node, int depth) {
            int fault = faultAt(node, depth);
            if (fault != 0 || forest.isLeaf(node)) {
                return fault;
            }
            fault = faultFrom(forest.yesOf[node], depth + 1);
            return fault != 0 ? fault : faultFrom(forest.noOf[node], depth + 1);
        }

        private int faultAt(int node, int depth) {
            if (cameTo[node]) {
                return 100 * TWICE + node;
            }
            cameTo[node] = true;
            if (depth > DEPTH_MAX) {
                return 100 * DEEP + node;
            }
            return isDangling(node) ? 100 * DANGLING + node : 0;
        }

        private boolean isDangling(int node) {
            return !forest.isLeaf(node) && !(forest.isNode(forest.yesOf[node]) && forest.isNode(forest.noOf[node]));
        }
    }

    /** Says which nodes get a method of their own, and how long the code of each node is; only for checked trees. */
    private static final class Cutter {
        private final Forest forest;
        private final int[] codeLengthOf = new int[NODES_MAX];
        /** The method that a node's code is, or NONE for a node whose code stands inside another's. */
        private final int[] methodOf = new int[NODES_MAX];
        private final int[] nodeOf = new int[NODES_MAX];
        private int methodCount;

        Cutter(Forest forest) {
            this.forest = forest;
        }

        void cutTrees(int limit) {
            methodCount = 0;
            for (int n = 0; n < NODES_MAX; n++) {
                methodOf[n] = NONE;
            }
            for (int t = 0; t < forest.treeCount; t++) {
                cutFrom(forest.rootOf[t], limit, 0);
                cutOut(forest.rootOf[t]);
            }
        }

        private void cutFrom(int node, int limit, int depth) {
            if (forest.isLeaf(node) || depth > DEPTH_MAX) {
                codeLengthOf[node] = SHORT_PART_LENGTH;
                return;
            }
            cutFrom(forest.yesOf[node], limit, depth + 1);
            cutFrom(forest.noOf[node], limit, depth + 1);
            cutChildren(node, limit);
            codeLengthOf[node] = splitLength(node);
        }

        private void cutChildren(int node, int limit) {
            int yes = forest.yesOf[node];
            int no = forest.noOf[node];
            if (splitLength(node) <= limit) {
                return;
            }
            boolean yesFirst = partLength(yes) >= partLength(no);
            cutOut(yesFirst ? yes : no);
            if (splitLength(node) > limit) {
                cutOut(yesFirst ? no : yes);
            }
        }

        private void cutOut(int node) {
            if (methodCount < NODES_MAX) {
                methodOf[node] = methodCount;
                nodeOf[methodCount] = node;
                methodCount++;
            }
        }

        private int splitLength(int node) {
            int yes = partLength(forest.yesOf[node]);
            return BEFORE_TEST_LENGTH + testLength(yes) + yes + partLength(forest.noOf[node]);
        }

        int partLength(int child) {
            return methodOf[child] == NONE ? codeLengthOf[child] : SHORT_PART_LENGTH;
        }

        /** The near form counts itself in its distance, so what it jumps over must leave room for it. */
        static int testLength(int yesLength) {
            return NEAR_TEST_LENGTH + yesLength <= NEAR_MAX ? NEAR_TEST_LENGTH : FAR_TEST_LENGTH;
        }
    }

    /** The tables of all classes, one behind the other; only the latest class's table still grows. */
    private static final class Tables {
        private final int[] kindAt = new int[ENTRIES_ROOM];
        private final int[] bitsAt = new int[ENTRIES_ROOM];
        /** Where each class's table begins; behind the latest class: where its table ends. */
        private final int[] startOf = new int[NODES_MAX + 1];
        private int classCount;

        void forgetAll() {
            classCount = 0;
            startOf[0] = 0;
        }

        void openClass() {
            if (classCount < NODES_MAX) {
                startOf[classCount + 1] = startOf[classCount];
                classCount++;
            }
        }

        boolean isClass(int c) {
            return c >= 0 && c < classCount;
        }

        int sizeOf(int c) {
            return startOf[c + 1] - startOf[c];
        }

        boolean holds(int c, int k) {
            return isClass(c) && k >= 0 && k < sizeOf(c);
        }

        int latestSize() {
            return classCount > 0 ? sizeOf(classCount - 1) : 0;
        }

        /** Takes the newest entries back, so that the latest class has as many as it had before. */
        void shrinkLatest(int size) {
            if (classCount > 0) {
                startOf[classCount] = startOf[classCount - 1] + size;
            }
        }

        /** The number of an entry in the latest class's table, to whose end it comes if it isn't there yet. */
        int numberFor(int kind, int bits) {
            int start = classCount > 0 ? startOf[classCount - 1] : 0;
            int end = startOf[classCount];
            for (int place = start; place < end; place++) {
                if (kindAt[place] == kind && bitsAt[place] == bits) {
                    return place - start;
                }
            }
            if (end < ENTRIES_ROOM) {
                kindAt[end] = kind;
                bitsAt[end] = bits;
                startOf[classCount] = end + 1;
            }
            return end - start;
        }
    }

    /** The bytes of all methods, one behind the other, as they were made by the latest compile. */
    private static final class Code {
        private final Forest forest;
        private final Cutter cutter;
        private final Tables tables;
        private final int[] bytes = new int[BYTES_ROOM];
        /** Where each method begins; behind the latest method: where it ends. */
        private final int[] startOf = new int[NODES_MAX + 1];
        private final int[] homeOf = new int[NODES_MAX];
        private final int[] rootMethodOf = new int[TREES_MAX];
        private int used;
        private int methodCount;
        private int treeCount;

        Code(Forest forest, Cutter cutter, Tables tables) {
            this.forest = forest;
            this.cutter = cutter;
            this.tables = tables;
        }

        boolean isMethod(int m) {
            return m >= 0 && m < methodCount;
        }

        void writeMethods(int allowed) {
            used = 0;
            tables.forgetAll();
            tables.openClass();
            methodCount = cutter.methodCount;
            for (int m = 0; m < methodCount; m++) {
                writeMethod(m, allowed);
            }
            treeCount = forest.treeCount;
            for (int t = 0; t < treeCount; t++) {
                rootMethodOf[t] = cutter.methodOf[forest.rootOf[t]];
            }
        }

        /** What a method adds to a table shows only as it is written, so one that doesn't fit is written anew. */
        private void writeMethod(int m, int allowed) {
            int sizeBefore = tables.latestSize();
            startOf[m] = used;
            writeCode(cutter.nodeOf[m], 0);
            if (tables.latestSize() > allowed) {
                tables.shrinkLatest(sizeBefore);
                tables.openClass();
                used = startOf[m];
                writeCode(cutter.nodeOf[m], 0);
            }
            startOf[m + 1] = used;
            homeOf[m] = tables.classCount - 1;
        }

        private void writeCode(int node, int depth) {
            if (depth > DEPTH_MAX) {
                return;
            }
            boolean isLeaf = forest.isLeaf(node);
            if (!isLeaf) {
                writePair(LOAD, forest.featureOf[node]);
            }
            writePair(CONSTANT, tables.numberFor(forest.kindOfEntry(node), forest.bitsOf[node]));
            if (isLeaf) {
                writeByte(RETURN);
                return;
            }
            writeTest(forest.ruleOf[node], cutter.partLength(forest.yesOf[node]));
            writePart(forest.yesOf[node], depth + 1);
            writePart(forest.noOf[node], depth + 1);
        }

        private void writePart(int child, int depth) {
            int method = cutter.methodOf[child];
            if (method == NONE) {
                writeCode(child, depth);
                return;
            }
            writePair(CALL, tables.numberFor(METHOD_NUMBER, method));
            writeByte(RETURN);
        }

        private void writeTest(int rule, int yesLength) {
            int testLength = Cutter.testLength(yesLength);
            int distance = testLength + yesLength;
            if (testLength == NEAR_TEST_LENGTH) {
                writePair(NEAR_TEST + rule, distance);
                return;
            }
            writePair(FAR_TEST + rule, distance >> 8);
            writeByte(distance & 255);
        }

        private void writePair(int first, int second) {
            writeByte(first);
            writeByte(second);
        }

        private void writeByte(int value) {
            if (used < BYTES_ROOM) {
                bytes[used] = value;
                used++;
            }
        }

        /** A byte by its place among all methods' bytes; a place outside reads as RETURN, which ends any run. */
        int byteOfAll(int place) {
            return place >= 0 && place < used ? bytes[place] : RETURN;
        }
    }

    /** Runs the code and counts what it does. */
    private static final class Machine {
        private final Code code;
        private final Tables tables;
        private final int[] features;
        private int stepCount;
        private int callCount;

        Machine(Code code, Tables tables, int[] features) {
            this.code = code;
            this.tables = tables;
            this.features = features;
        }

        long runTrees() {
            stepCount = 0;
            callCount = 0;
            long sum = 0;
            for (int t = 0; t < code.treeCount; t++) {
                sum += runMethod(code.rootMethodOf[t], 0);
            }
            return sum;
        }

        /** No code has more than two values on its stack, so the stack is two variables. */
        private int runMethod(int m, int depth) {
            if (depth > DEPTH_MAX || !code.isMethod(m)) {
                return 0;
            }
            int upper = 0;
            int lower = 0;
            int at = code.startOf[m];
            for (int done = 0; done < BYTES_ROOM; done++) {
                int operation = code.byteOfAll(at);
                stepCount++;
                if (operation == RETURN) {
                    return upper;
                }
                if (operation >= NEAR_TEST) {
                    at += testMove(at, lower, upper);
                    continue;
                }
                lower = upper;
                upper = operand(operation, code.homeOf[m], code.byteOfAll(at + 1));
                if (operation == CALL) {
                    callCount++;
                    upper = runMethod(upper, depth + 1);
                }
                at += 2;
            }
            return upper;
        }

        /** What LOAD and CONSTANT push, and the number of the method that CALL does. */
        private int operand(int operation, int home, int number) {
            if (operation == LOAD) {
                return isFeature(number) ? features[number] : 0;
            }
            return tables.holds(home, number) ? tables.bitsAt[tables.startOf[home] + number] : 0;
        }

        /** How many places the TEST at a place moves on. */
        private int testMove(int at, int bits, int mark) {
            int operation = code.byteOfAll(at);
            boolean far = operation >= FAR_TEST;
            int rule = operation - (far ? FAR_TEST : NEAR_TEST);
            if (Rules.goesToYes(rule, bits, mark)) {
                return far ? FAR_TEST_LENGTH : NEAR_TEST_LENGTH;
            }
            int second = code.byteOfAll(at + 1);
            return far ? 256 * second + code.byteOfAll(at + 2) : second;
        }
    }
}
