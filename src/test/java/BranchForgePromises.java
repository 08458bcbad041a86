/** Tests of the promises 1 to 17, each in a method of its own, with the edges that the document names. */
public final class BranchForgePromises {
    private static final int MIN = Integer.MIN_VALUE;
    private static final int MAX = Integer.MAX_VALUE;
    private static final int INFINITE = 0x7f800000;
    private static final int QUIET = 0x7fc00000;
    private static final int ONE = 0x3f800000;
    private static final int[] NO_NUMBERS = {MIN, -2, -1, 60, 61, MAX};

    private static int wrong = 0;
    private static String promise = "";

    private static void due(String what, long got, long want) {
        if (got != want) {
            wrong++;
            System.out.println(promise + ": " + what + " answered " + got + ", due is " + want);
        }
    }

    private static void due(String what, boolean got, boolean want) {
        due(what, got ? 1 : 0, want ? 1 : 0);
    }

    public static void main(String[] args) {
        constants();
        promise1NewObject();
        promise2Leaf();
        promise3Split();
        promise4Tree();
        promise5Arguments();
        promise5Faults();
        promise5Depth();
        promise5Cutting();
        promise5CuttingChangesTheTest();
        promise5OldCodeIsGone();
        promise6Methods();
        promise7Length();
        promise8ByteAt();
        promise8NearAndFarTests();
        promise8VeryFarTest();
        promise9ClassOf();
        promise10Classes();
        promise11Entries();
        promise12Entry();
        promise12OrderOfEntries();
        promise13Set();
        promise14Predict();
        promise14OrderRules();
        promise14BitRules();
        promise14Missing();
        promise15Steps();
        promise16Calls();
        promise17Reach();
        allFeaturesAndRules();
        fullObject();
        System.out.println(wrong == 0 ? "all answers are as due" : wrong + " answers are not as due");
        if (wrong != 0) {
            System.exit(1);
        }
    }

    // Ensembles that several tests use.

    /** Leaves 0 and 1 (values 10 and 20) under split 2 on feature 0; the only tree. */
    private static BranchForge oneSplit(int rule, int mark) {
        BranchForge x = new BranchForge();
        x.leaf(10);
        x.leaf(20);
        x.split(rule, 0, mark, 0, 1);
        x.tree(2);
        return x;
    }

    /** Makes a subtree as low as its count of leaves allows, with values that rise by one; answers its root. */
    private static int balanced(BranchForge x, int leaves, int firstValue) {
        if (leaves == 1) {
            return x.leaf(firstValue);
        }
        int half = (leaves + 1) / 2;
        int yes = balanced(x, half, firstValue);
        int no = balanced(x, leaves - half, firstValue + half);
        return x.split(0, 0, firstValue, yes, no);
    }

    /** Seven nodes: splits 4 (yes) and 5 (no) under split 6, leaves 0 .. 3 with the values 1, 2, 4, 8. */
    private static BranchForge twoLevels() {
        BranchForge x = new BranchForge();
        x.leaf(1);
        x.leaf(2);
        x.leaf(4);
        x.leaf(8);
        x.split(0, 1, 100, 0, 1);
        x.split(0, 2, 200, 2, 3);
        x.split(0, 0, 300, 4, 5);
        x.tree(6);
        return x;
    }

    private static void dueBytes(BranchForge x, int m, int... bytes) {
        due("length(" + m + ")", x.length(m), bytes.length);
        for (int p = 0; p < bytes.length; p++) {
            due("byteAt(" + m + ", " + p + ")", x.byteAt(m, p), bytes[p]);
        }
        due("byteAt(" + m + ", end)", x.byteAt(m, bytes.length), -1);
    }

    private static void dueTable(BranchForge x, int c, long... kindsAndBits) {
        due("entries(" + c + ")", x.entries(c), kindsAndBits.length / 2);
        for (int k = 0; k < kindsAndBits.length / 2; k++) {
            long want = kindsAndBits[2 * k] * 4294967296L + (kindsAndBits[2 * k + 1] & 0xffffffffL);
            due("entry(" + c + ", " + k + ")", x.entry(c, k), want);
        }
        due("entry(" + c + ", end)", x.entry(c, kindsAndBits.length / 2), -1);
    }

    private static void dueNoCode(BranchForge x) {
        due("methods()", x.methods(), 0);
        due("length(0)", x.length(0), -1);
        due("byteAt(0, 0)", x.byteAt(0, 0), -1);
        due("classOf(0)", x.classOf(0), -1);
        due("classes()", x.classes(), 0);
        due("entries(0)", x.entries(0), -1);
        due("entry(0, 0)", x.entry(0, 0), -1);
        due("predict()", x.predict(), 0);
        due("steps()", x.steps(), 0);
        due("calls()", x.calls(), 0);
        due("reach(0)", x.reach(0), -1);
    }

    private static void constants() {
        promise = "constants";
        due("DANGLING", BranchForge.DANGLING, 1);
        due("TWICE", BranchForge.TWICE, 2);
        due("DEEP", BranchForge.DEEP, 3);
    }

    private static void promise1NewObject() {
        promise = "promise 1";
        BranchForge other = oneSplit(0, 5);
        other.set(0, 7);
        other.compile(400, 60);
        other.predict();
        BranchForge x = new BranchForge();
        due("steps() before any predict", x.steps(), 0);
        due("calls() before any predict", x.calls(), 0);
        dueNoCode(x);
        due("tree(0) without nodes", x.tree(0), -1);
        due("compile without trees", x.compile(400, 60), -1);
        due("first node", x.leaf(3), 0);
        due("first tree", x.tree(0), 0);
        dueNoCode(x);
    }

    private static void promise2Leaf() {
        promise = "promise 2";
        BranchForge x = new BranchForge();
        int[] values = {0, -1, 1, MIN, MAX};
        for (int n = 0; n < 60; n++) {
            due("leaf " + n, x.leaf(values[n % 5]), n);
        }
        due("leaf 60", x.leaf(5), -1);
        due("leaf 60 again", x.leaf(5), -1);
        long sum = 0;
        for (int t = 0; t < 8; t++) {
            x.tree(52 + t);
            sum += values[(52 + t) % 5];
        }
        due("compile", x.compile(20, 5), 8);
        due("predict", x.predict(), sum);
        due("split after 60 leaves", x.split(0, 0, 0, 0, 1), -1);
    }

    private static void promise3Split() {
        promise = "promise 3";
        BranchForge x = new BranchForge();
        for (int rule : new int[] {MIN, -1, 6, 7, 15, MAX}) {
            due("rule " + rule, x.split(rule, 0, 0, 0, 1), -1);
        }
        for (int feature : new int[] {MIN, -1, 8, 9, MAX}) {
            due("feature " + feature, x.split(0, feature, 0, 0, 1), -1);
        }
        for (int child : NO_NUMBERS) {
            due("yes " + child, x.split(0, 0, 0, child, 1), -1);
            due("no " + child, x.split(0, 0, 0, 1, child), -1);
        }
        int[] badMarks = {INFINITE, INFINITE | MIN, QUIET, QUIET | MIN, INFINITE + 1, MAX, -1};
        for (int rule = 0; rule < 4; rule++) {
            for (int mark : badMarks) {
                due("rule " + rule + " mark " + mark, x.split(rule, 0, mark, 0, 1), -1);
            }
        }
        int made = 0;
        for (int mark : badMarks) {
            due("rule 4 mark " + mark, x.split(4, 0, mark, 0, 59), made++);
            due("rule 5 mark " + mark, x.split(5, 7, mark, 59, 0), made++);
        }
        for (int rule = 0; rule < 4; rule++) {
            due("largest mark", x.split(rule, 0, INFINITE - 1, 0, 1), made++);
            due("lowest mark", x.split(rule, 7, (INFINITE - 1) | MIN, 59, 59), made++);
            due("negative zero", x.split(rule, 7, MIN, 0, 0), made++);
        }
        for (int n = made; n < 60; n++) {
            due("split " + n, x.split(n % 6, n % 8, 0, n, n), n);
        }
        due("split 60", x.split(0, 0, 0, 0, 1), -1);
        due("leaf after 60 splits", x.leaf(0), -1);
    }

    private static void promise4Tree() {
        promise = "promise 4";
        BranchForge x = new BranchForge();
        x.leaf(1);
        x.split(0, 0, 0, 0, 59);
        for (int root : NO_NUMBERS) {
            due("tree(" + root + ")", x.tree(root), -1);
        }
        due("tree(2)", x.tree(2), -1);
        due("tree(1)", x.tree(1), 0);
        for (int t = 1; t < 8; t++) {
            due("tree " + t, x.tree(0), t);
        }
        due("tree 8", x.tree(0), -1);
        due("tree 8", x.tree(1), -1);
    }

    private static void promise5Arguments() {
        promise = "promise 5, arguments";
        BranchForge x = new BranchForge();
        x.leaf(1);
        due("no tree", x.compile(400, 60), -1);
        x.tree(0);
        for (int limit : new int[] {MIN, -1, 0, 19, 401, MAX}) {
            due("limit " + limit, x.compile(limit, 60), -1);
        }
        for (int entries : new int[] {MIN, -1, 0, 1, 4, 61, MAX}) {
            due("entries " + entries, x.compile(20, entries), -1);
        }
        due("methods after refusals", x.methods(), 0);
        int[][] taken = {{20, 5}, {23, 5}, {24, 6}, {400, 60}, {20, 60}, {236, 59}, {239, 59}, {240, 60}, {27, 6}};
        for (int[] pair : taken) {
            due("compile(" + pair[0] + ", " + pair[1] + ")", x.compile(pair[0], pair[1]), 1);
        }
        int[][] refused = {{24, 5}, {27, 5}, {28, 6}, {240, 59}, {400, 59}, {236, 58}, {239, 58}, {400, 61}, {20, 61}};
        for (int[] pair : refused) {
            due("compile(" + pair[0] + ", " + pair[1] + ")", x.compile(pair[0], pair[1]), -1);
        }
        due("methods after refusals", x.methods(), 1);
        x.tree(0);
        due("-1 goes before a fault", x.compile(19, 60), -1);
        due("the fault", x.compile(20, 60), -200);
    }

    private static int compiled(int[][] splits, int leavesFrom, int nodes, int... roots) {
        BranchForge x = new BranchForge();
        for (int n = 0; n < nodes; n++) {
            if (n < leavesFrom) {
                x.split(0, 0, 0, splits[n][0], splits[n][1]);
            } else {
                x.leaf(n);
            }
        }
        for (int root : roots) {
            x.tree(root);
        }
        int answer = x.compile(400, 60);
        due("methods() after the compile", x.methods(), Math.max(0, answer));
        return answer;
    }

    private static void promise5Faults() {
        promise = "promise 5, faults";
        due("root twice", compiled(new int[0][], 0, 2, 1, 0, 1), -201);
        due("leaf twice in a split", compiled(new int[][] {{1, 1}}, 1, 2, 0), -201);
        due("leaf twice in a tree", compiled(new int[][] {{1, 2}, {2, 3}}, 2, 4, 0), -202);
        due("leaf twice in two trees", compiled(new int[][] {{2, 3}, {4, 3}}, 2, 5, 0, 1), -203);
        due("root of a later tree", compiled(new int[][] {{1, 2}}, 1, 3, 0, 2), -202);
        due("root of an earlier tree", compiled(new int[][] {{1, 2}}, 1, 3, 2, 0), -202);
        due("child of itself", compiled(new int[][] {{0, 1}}, 1, 2, 0), -200);
        due("loop", compiled(new int[][] {{2, 1}, {2, 0}}, 2, 3, 0), -202);
        due("loop of three", compiled(new int[][] {{1, 3}, {2, 4}, {0, 5}}, 3, 6, 0), -200);
        due("yes dangles", compiled(new int[][] {{2, 1}}, 1, 2, 0), -100);
        due("no dangles", compiled(new int[][] {{1, 2}}, 1, 2, 0), -100);
        due("both dangle", compiled(new int[][] {{58, 59}}, 1, 2, 0), -100);
        due("a child dangles", compiled(new int[][] {{1, 2}, {3, 9}}, 2, 4, 0), -101);
        due("dangling before its own yes", compiled(new int[][] {{1, 9}, {0, 0}}, 2, 3, 0), -100);
        due("yes before no", compiled(new int[][] {{1, 2}, {3, 9}, {3, 9}}, 3, 4, 0), -101);
        due("below yes before no", compiled(new int[][] {{1, 2}, {3, 4}, {3, 9}, {5, 5}}, 4, 6, 0), -205);
        due("twice before dangling", compiled(new int[][] {{1, 1}, {2, 3}}, 2, 4, 0), -201);
        due("first tree first", compiled(new int[][] {{9, 9}, {2, 2}}, 2, 3, 1, 0), -202);
        due("not in a tree", compiled(new int[][] {{2, 3}, {1, 9}}, 2, 4, 0), 1);
        BranchForge x = new BranchForge();
        x.split(0, 0, 0, 1, 2);
        x.leaf(3);
        x.tree(0);
        due("dangling", x.compile(400, 60), -100);
        x.leaf(4);
        due("no longer", x.compile(400, 60), 1);
        due("predict()", x.predict(), 4);
    }

    /** Splits 0 .. depth - 1, each the yes child (or the no child) of the one before, with leaves at the side. */
    private static BranchForge chain(int depth, boolean yesDown) {
        BranchForge x = new BranchForge();
        for (int n = 0; n < depth; n++) {
            int down = n + 1;
            int side = depth + 1 + n;
            x.split(0, 0, n, yesDown ? down : side, yesDown ? side : down);
        }
        for (int n = depth; n <= 2 * depth; n++) {
            x.leaf(n);
        }
        x.tree(0);
        return x;
    }

    private static void promise5Depth() {
        promise = "promise 5, depth";
        due("12 above", chain(12, true).compile(400, 60), 1);
        due("12 above, by no", chain(12, false).compile(400, 60), 1);
        due("13 above", chain(13, true).compile(400, 60), -313);
        due("14 above", chain(14, true).compile(400, 60), -313);
        // The leaf at the yes side of the thirteenth split is come to first.
        due("13 above, by no", chain(13, false).compile(400, 60), -326);
        due("14 above, by no", chain(14, false).compile(400, 60), -327);
        BranchForge x = new BranchForge();
        for (int n = 0; n < 13; n++) {
            x.split(0, 0, n, n + 1, 59);
        }
        x.tree(1);
        due("dangling above what is deep", x.compile(400, 60), -101);
        BranchForge y = chain(13, true);
        due("second tree", y.tree(13), 1);
        due("deep before twice", y.compile(400, 60), -313);
        BranchForge z = new BranchForge();
        for (int n = 0; n < 12; n++) {
            z.split(0, 0, n, n + 1, 14 + n);
        }
        z.split(0, 0, 12, 13, 26);
        z.split(0, 0, 13, 0, 59);
        for (int n = 14; n < 27; n++) {
            z.leaf(n);
        }
        z.tree(0);
        due("deep before dangling", z.compile(400, 60), -313);
        BranchForge w = new BranchForge();
        w.leaf(0);
        for (int n = 1; n < 14; n++) {
            w.split(0, 0, n, n + 1, 14 + n);
        }
        w.split(0, 0, 0, 0, 0);
        for (int n = 15; n < 28; n++) {
            w.leaf(n);
        }
        w.tree(14);
        due("twice before deep", w.compile(400, 60), -200);
        BranchForge v = new BranchForge();
        for (int n = 0; n < 13; n++) {
            v.split(0, 0, n, n == 12 ? 0 : n + 1, 13 + n);
        }
        for (int n = 13; n < 26; n++) {
            v.leaf(n);
        }
        v.tree(0);
        due("twice at a place too deep", v.compile(400, 60), -200);
        due("depth counts from each root", twoChains().compile(400, 60), 2);
    }

    private static BranchForge twoChains() {
        BranchForge x = new BranchForge();
        for (int first = 0; first <= 25; first += 25) {
            for (int n = 0; n < 12; n++) {
                x.split(0, 0, n, first + n + 1, first + 13 + n);
            }
            for (int n = 12; n < 25; n++) {
                x.leaf(n);
            }
            x.tree(first);
        }
        return x;
    }

    private static void promise5Cutting() {
        promise = "promise 5, cutting";
        BranchForge x = twoLevels();
        due("30 bytes fit in 30", x.compile(30, 7), 1);
        due("length(0)", x.length(0), 30);
        due("30 bytes don't fit in 29", x.compile(29, 7), 2);
        dueBytes(x, 0, 1, 1, 2, 0, 10, 5, 2, 1, 3, 2, 2, 3);
        dueTable(x, 0, 1, 100, 2, 1, 2, 2);
        due("yes is cut out if both are as long", x.entry(1, 1), 4 * 4294967296L);
        dueBytes(x, 1, 1, 0, 2, 0, 10, 5, 4, 1, 3, 1, 2, 2, 2, 10, 5, 2, 3, 3, 2, 4, 3);
        due("21 bytes fit in 21", x.compile(21, 5), 2);
        due("21 bytes don't fit in 20", x.compile(20, 5), 3);
        due("yes first if both are as long", x.entry(0, 0), 4294967296L + 100);
        BranchForge y = new BranchForge();
        int yes = balanced(y, 2, 1);
        int no = balanced(y, 3, 11);
        y.tree(y.split(1, 3, 9, yes, no));
        due("the longer one, no", y.compile(38, 9), 2);
        due("length of no", y.length(0), 21);
        dueBytes(y, 1, 1, 3, 2, 4, 11, 14, 1, 0, 2, 5, 10, 5, 2, 6, 3, 2, 7, 3, 4, 8, 3);
        // No is cut inside first, and then its part is as long as that of yes.
        due("as long after the cut", y.compile(20, 60), 4);
        int[] marks = {11, 1, 11, 9};
        for (int m = 0; m < 4; m++) {
            due("length(" + m + ")", y.length(m), 12);
            due("mark of method " + m, markOf(y, m), marks[m]);
        }
        threeTrees();
    }

    /** The bits of the first entry that a method needs: its first split's mark. */
    private static long markOf(BranchForge x, int m) {
        return x.entry(x.classOf(m), x.byteAt(m, 3)) & 0xffffffffL;
    }

    /** The trees are not in the order of their nodes: it is the trees' order that counts. */
    private static void threeTrees() {
        BranchForge x = new BranchForge();
        int four = balanced(x, 4, 1);
        int two = balanced(x, 2, 5);
        int three = balanced(x, 3, 7);
        x.tree(three);
        x.tree(two);
        x.tree(four);
        due("trees in their order", x.compile(20, 5), 6);
        int[] marks = {7, 7, 5, 1, 3, 1};
        for (int m = 0; m < 6; m++) {
            due("mark of method " + m, markOf(x, m), marks[m]);
        }
        due("CALL in the first root's method", x.byteAt(1, 6), 4);
        due("CALL in the last root's method", x.byteAt(5, 6), 4);
        due("predict()", x.predict(), 7 + 5 + 1);
        due("calls()", x.calls(), 2);
    }

    private static void promise5CuttingChangesTheTest() {
        promise = "promise 5, cutting and TEST";
        // A yes part of 66 bytes makes TEST far; the split has 4 + 3 + 66 + 57 = 130 bytes.
        BranchForge x = new BranchForge();
        int yes = balanced(x, 8, 1);
        int no = balanced(x, 7, 21);
        x.tree(x.split(2, 0, 50, yes, no));
        due("130 bytes fit", x.compile(130, 32), 1);
        due("length(0)", x.length(0), 130);
        due("129 are too few", x.compile(129, 32), 2);
        due("length of yes", x.length(0), 66);
        due("with the near TEST", x.length(1), 66);
        due("TEST", x.byteAt(1, 4), 12);
        due("66 bytes fit, as TEST has become near", x.compile(66, 16), 2);
        due("length(1)", x.length(1), 66);
        // A no part that is cut out leaves TEST far.
        BranchForge y = new BranchForge();
        int shorter = balanced(y, 8, 1);
        int longer = balanced(y, 9, 21);
        y.tree(y.split(3, 0, 50, shorter, longer));
        due("no is longer", y.compile(100, 25), 2);
        due("length of no", y.length(0), 75);
        due("with the far TEST", y.length(1), 76);
        due("TEST", y.byteAt(1, 4), 23);
        due("76 bytes fit", y.compile(76, 60), 2);
        due("75 are too few", y.compile(75, 60), 3);
        due("no is cut out first", y.length(0), 75);
        due("then yes", y.length(1), 66);
        due("both were cut out", y.length(2), 12);
        dueBytes(y, 2, 1, 0, 2, y.byteAt(2, 3), 13, 5, 4, y.byteAt(2, 7), 3, 4, y.byteAt(2, 10), 3);
        due("yes part's method", y.entry(y.classOf(2), y.byteAt(2, 7)), 4 * 4294967296L + 1);
        due("no part's method", y.entry(y.classOf(2), y.byteAt(2, 10)), 4 * 4294967296L);
        // One byte more in the yes part, for a far TEST inside it, makes it the longer one.
        BranchForge z = new BranchForge();
        int inner = balanced(z, 8, 1);
        int one = z.split(0, 0, 60, inner, z.leaf(70));
        z.tree(z.split(3, 0, 50, one, balanced(z, 9, 21)));
        due("both", z.compile(83, 60), 3);
        due("yes first", z.length(0), 76);
        due("then no", z.length(1), 75);
        due("84 bytes are enough for no", z.compile(84, 60), 2);
        due("yes was cut out", z.length(0), 76);
        due("no was not", z.length(1), 84);
    }

    private static void promise5OldCodeIsGone() {
        promise = "promise 5, anew";
        BranchForge x = twoLevels();
        due("three methods", x.compile(20, 5), 3);
        due("classes()", x.classes(), 3);
        due("one method", x.compile(400, 60), 1);
        due("methods()", x.methods(), 1);
        due("classes()", x.classes(), 1);
        due("length(1)", x.length(1), -1);
        due("classOf(1)", x.classOf(1), -1);
        due("entries(1)", x.entries(1), -1);
        due("byteAt(1, 0)", x.byteAt(1, 0), -1);
        due("entry(1, 0)", x.entry(1, 0), -1);
        x.tree(x.leaf(1000));
        due("a later tree is not in the code", x.predict(), 1);
        due("nor reached", x.reach(1), -1);
        due("refused", x.compile(400, 61), -1);
        due("still not reached", x.reach(1), -1);
        x.tree(3);
        due("refused for a fault", x.compile(20, 5), -203);
        due("the code stays", x.methods(), 1);
        due("length(0)", x.length(0), 30);
        due("entries(0)", x.entries(0), 7);
        due("predict()", x.predict(), 1);
        due("reach(0)", x.reach(0), 0);
        BranchForge y = twoLevels();
        y.compile(20, 5);
        y.tree(y.leaf(1000));
        due("four methods", y.compile(20, 5), 4);
        due("the later tree is in the code", y.predict(), 1001);
        due("and reached", y.reach(1), 7);
    }

    private static void promise6Methods() {
        promise = "promise 6";
        BranchForge x = twoLevels();
        due("before", x.methods(), 0);
        x.compile(20, 5);
        due("after", x.methods(), 3);
        x.compile(29, 7);
        due("after", x.methods(), 2);
        x.compile(19, 7);
        due("after a refusal", x.methods(), 2);
    }

    private static void promise7Length() {
        promise = "promise 7";
        BranchForge x = twoLevels();
        due("no code", x.length(0), -1);
        x.tree(x.leaf(77));
        x.compile(29, 7);
        due("length(0)", x.length(0), 12);
        due("length(1)", x.length(1), 21);
        due("length(2)", x.length(2), 3);
        for (int m : new int[] {MIN, -1, 3, 4, 60, 61, 1000, MAX}) {
            due("length(" + m + ")", x.length(m), -1);
        }
    }

    private static void promise8ByteAt() {
        promise = "promise 8";
        BranchForge x = twoLevels();
        due("no code", x.byteAt(0, 0), -1);
        x.compile(400, 60);
        dueBytes(x, 0,
            1, 0, 2, 0, 10, 14, 1, 1, 2, 1, 10, 5, 2, 2, 3, 2, 3, 3, 1, 2, 2, 4, 10, 5, 2, 5, 3, 2, 6, 3);
        x.compile(20, 5);
        for (int p : new int[] {MIN, -1, 12, 13, MAX}) {
            due("byteAt(0, " + p + ")", x.byteAt(0, p), -1);
        }
        for (int m : new int[] {MIN, -1, 3, 60, MAX}) {
            due("byteAt(" + m + ", 0)", x.byteAt(m, 0), -1);
        }
        due("last byte", x.byteAt(0, 11), 3);
    }

    private static void promise8NearAndFarTests() {
        promise = "promise 8, TEST";
        // A part of n leaves has 9 * n - 6 bytes while each TEST in it is near, so 57 is followed by 66.
        BranchForge x = new BranchForge();
        int seven = balanced(x, 7, 1);
        x.tree(x.split(5, 7, 1, seven, x.leaf(0)));
        x.compile(400, 60);
        due("TEST", x.byteAt(0, 4), 15);
        due("distance", x.byteAt(0, 5), 59);
        due("length(0)", x.length(0), 4 + 2 + 57 + 3);
        BranchForge y = new BranchForge();
        int eight = balanced(y, 8, 1);
        y.tree(y.split(5, 7, 1, eight, y.leaf(0)));
        y.compile(400, 60);
        due("TEST", y.byteAt(0, 4), 25);
        due("upper byte", y.byteAt(0, 5), 0);
        due("lower byte", y.byteAt(0, 6), 69);
        due("next", y.byteAt(0, 7), 1);
        due("length(0)", y.length(0), 4 + 3 + 66 + 3);
    }

    private static void promise8VeryFarTest() {
        promise = "promise 8, TEST of more than 255 places";
        BranchForge x = new BranchForge();
        int yes = balanced(x, 29, 1);
        int no = x.leaf(-5);
        int root = x.split(4, 7, 1, yes, no);
        x.tree(root);
        due("compile", x.compile(400, 60), 1);
        // The yes part: 29 leaves, 28 splits, and a far TEST where yes has 8 leaves or more: under 29 and under 15.
        int yesLength = 9 * 29 - 6 + 2;
        int distance = 3 + yesLength;
        int length = 4 + distance + 3;
        due("length(0)", x.length(0), length);
        due("TEST", x.byteAt(0, 4), 24);
        due("upper byte", x.byteAt(0, 5), 1);
        due("both bytes", x.byteAt(0, 5) * 256 + x.byteAt(0, 6), distance);
        due("no part", x.byteAt(0, 4 + distance), 2);
        due("end", x.byteAt(0, length - 1), 3);
        due("first leaf", x.predict(), 1);
        x.set(7, ONE);
        due("no", x.predict(), -5);
        due("steps", x.steps(), 5);
    }

    private static void promise9ClassOf() {
        promise = "promise 9";
        BranchForge x = twoLevels();
        due("no code", x.classOf(0), -1);
        x.compile(20, 5);
        for (int m = 0; m < 3; m++) {
            due("a class each", x.classOf(m), m);
        }
        x.compile(20, 6);
        due("3 + 3 entries fit in 6", x.classOf(1), 0);
        due("3 more don't", x.classOf(2), 1);
        x.compile(20, 9);
        due("9 fit", x.classOf(2), 0);
        x.compile(20, 8);
        due("not in 8", x.classOf(2), 1);
        for (int m : new int[] {MIN, -1, 3, 60, MAX}) {
            due("classOf(" + m + ")", x.classOf(m), -1);
        }
        due("only the class before counts", onlyTheClassBefore().classOf(2), 2);
    }

    /** Three trees of which the first and the third need the same three entries, and the second five others. */
    private static BranchForge onlyTheClassBefore() {
        BranchForge x = new BranchForge();
        x.tree(x.split(0, 0, 1, x.leaf(1), x.leaf(2)));
        int under = x.split(0, 0, 3, x.leaf(3), x.leaf(4));
        x.tree(x.split(0, 0, 4, under, x.leaf(5)));
        x.tree(x.split(0, 0, 1, x.leaf(1), x.leaf(2)));
        due("compile", x.compile(21, 5), 3);
        return x;
    }

    private static void promise10Classes() {
        promise = "promise 10";
        BranchForge x = twoLevels();
        due("no code", x.classes(), 0);
        x.compile(20, 5);
        due("5 entries each", x.classes(), 3);
        x.compile(20, 6);
        due("6 entries each", x.classes(), 2);
        x.compile(20, 9);
        due("9 entries each", x.classes(), 1);
        x.compile(20, 4);
        due("after a refusal", x.classes(), 1);
    }

    private static void promise11Entries() {
        promise = "promise 11";
        BranchForge x = onlyTheClassBefore();
        due("entries(0)", x.entries(0), 3);
        due("entries(1)", x.entries(1), 5);
        due("entries(2)", x.entries(2), 3);
        for (int c : new int[] {MIN, -1, 3, 60, 61, MAX}) {
            due("entries(" + c + ")", x.entries(c), -1);
        }
        x.compile(21, 8);
        due("entries used again", x.entries(0), 8);
        due("one class", x.classes(), 1);
        due("the third method is there", x.classOf(2), 0);
        dueBytes(x, 2, 1, 0, 2, 0, 10, 5, 2, 1, 3, 2, 2, 3);
        due("no code", new BranchForge().entries(0), -1);
    }

    private static void promise12Entry() {
        promise = "promise 12";
        BranchForge x = new BranchForge();
        // The same bits as a mark of an order rule, a leaf's value, a mark of a bit rule and a method's number.
        int a = x.split(0, 0, 0, x.leaf(0), x.leaf(1));
        int b = x.split(4, 1, 0, a, x.leaf(-1));
        int c = x.split(3, 2, MIN, b, x.leaf(MIN));
        x.tree(x.split(5, 3, -1, c, x.leaf(0)));
        due("no code", x.entry(0, 0), -1);
        due("compile", x.compile(30, 60), 2);
        due("classes()", x.classes(), 1);
        dueTable(x, 0, 1, MIN, 3, 0, 1, 0, 2, 0, 2, 1, 2, -1, 2, MIN, 3, -1, 4, 0);
        dueBytes(x, 1, 1, 3, 2, 7, 15, 5, 4, 8, 3, 2, 3, 3);
        for (int k : new int[] {MIN, -1, 9, 60, MAX}) {
            due("entry(0, " + k + ")", x.entry(0, k), -1);
        }
        for (int k : new int[] {MIN, -1, 1, 60, MAX}) {
            due("entry(" + k + ", 0)", x.entry(k, 0), -1);
        }
        due("bits below zero", x.entry(0, 5), 2 * 4294967296L + 4294967295L);
        due("lowest bits", x.entry(0, 0), 4294967296L + 2147483648L);
    }

    private static void promise12OrderOfEntries() {
        promise = "promise 12, order";
        BranchForge x = twoLevels();
        x.compile(400, 60);
        dueTable(x, 0, 1, 300, 1, 100, 2, 1, 2, 2, 1, 200, 2, 4, 2, 8);
        x.compile(20, 6);
        dueTable(x, 0, 1, 100, 2, 1, 2, 2, 1, 200, 2, 4, 2, 8);
        dueTable(x, 1, 1, 300, 4, 0, 4, 1);
        BranchForge y = new BranchForge();
        int yes = balanced(y, 2, 1);
        int no = balanced(y, 3, 11);
        y.tree(y.split(1, 3, 9, yes, no));
        due("compile", y.compile(38, 60), 2);
        // The method of the no part is placed first, so its entries come first.
        dueTable(y, 0, 1, 11, 2, 11, 2, 12, 2, 13, 1, 9, 1, 1, 2, 1, 2, 2, 4, 0);
    }

    private static void promise13Set() {
        promise = "promise 13";
        BranchForge x = new BranchForge();
        for (int f : new int[] {MIN, -1, 8, 9, MAX}) {
            due("set(" + f + ")", x.set(f, 1), false);
        }
        for (int f = 0; f < 8; f++) {
            due("set(" + f + ")", x.set(f, QUIET), true);
        }
        BranchForge y = oneSplit(0, 5);
        y.compile(20, 5);
        due("at first 0", y.predict(), 10);
        y.set(0, 5);
        due("set", y.predict(), 20);
        y.set(8, 0);
        y.set(-1, 0);
        y.set(1, 0);
        due("still set", y.predict(), 20);
        y.compile(30, 60);
        due("compile leaves it", y.predict(), 20);
        y.set(0, 4);
        due("set again", y.predict(), 10);
    }

    private static void promise14Predict() {
        promise = "promise 14";
        BranchForge x = new BranchForge();
        due("no code", x.predict(), 0);
        for (int t = 0; t < 8; t++) {
            x.tree(x.leaf(MAX));
        }
        due("trees without code", x.predict(), 0);
        x.compile(20, 5);
        due("the sum is a long", x.predict(), 8L * MAX);
        BranchForge y = new BranchForge();
        for (int t = 0; t < 8; t++) {
            y.tree(y.leaf(MIN));
        }
        y.compile(20, 5);
        due("values below zero", y.predict(), 8L * MIN);
        due("once more", y.predict(), 8L * MIN);
    }

    private static void dueGoes(int rule, int bits, int mark, boolean yes) {
        BranchForge x = oneSplit(rule, mark);
        x.compile(20, 5);
        due("set", x.set(0, bits), true);
        String what = "rule " + rule + ", bits " + bits + ", mark " + mark;
        due(what, x.predict(), yes ? 10 : 20);
        due(what + ", reach", x.reach(0), yes ? 0 : 1);
    }

    private static void promise14OrderRules() {
        promise = "promise 14, rules 0 to 3";
        // In rising order; the two zeros are alike.
        int[] bits = {INFINITE | MIN, (INFINITE - 1) | MIN, ONE | MIN, 2 | MIN, 1 | MIN, MIN, 0, 1, 2, ONE, ONE + 1,
            INFINITE - 1, INFINITE};
        int[] order = {0, 1, 2, 3, 4, 5, 5, 6, 7, 8, 9, 10, 11};
        for (int b = 0; b < bits.length; b++) {
            for (int m = 1; m < bits.length - 1; m++) {
                dueGoes(0, bits[b], bits[m], order[b] < order[m]);
                dueGoes(1, bits[b], bits[m], order[b] < order[m]);
                dueGoes(2, bits[b], bits[m], order[b] <= order[m]);
                dueGoes(3, bits[b], bits[m], order[b] <= order[m]);
            }
        }
    }

    private static void promise14BitRules() {
        promise = "promise 14, rules 4 and 5";
        for (int rule = 4; rule < 6; rule++) {
            for (int w = 0; w < 32; w++) {
                int bits = Float.floatToIntBits(w);
                dueGoes(rule, bits, 1 << w, true);
                dueGoes(rule, bits, ~(1 << w), false);
                dueGoes(rule, bits, -1, true);
                dueGoes(rule, bits, 0, false);
                dueGoes(rule, bits + 1, -1, false);
                dueGoes(rule, bits | MIN, -1, w == 0);
                dueGoes(rule, Float.floatToIntBits(w + 0.5f), -1, false);
            }
            dueGoes(rule, MIN, 1, true);
            dueGoes(rule, MIN, ~1, false);
            for (int w = 32; w < 67; w++) {
                dueGoes(rule, Float.floatToIntBits(w), -1, false);
            }
            dueGoes(rule, INFINITE, -1, false);
            dueGoes(rule, INFINITE | MIN, -1, false);
            dueGoes(rule, 1, -1, false);
            dueGoes(rule, 31, -1, false);
            dueGoes(rule, ONE - 1, -1, false);
            dueGoes(rule, INFINITE - 1, -1, false);
        }
    }

    private static void promise14Missing() {
        promise = "promise 14, missing";
        for (int bits : new int[] {QUIET, INFINITE + 1, (INFINITE + 1) | MIN, QUIET | MIN, MAX, -1}) {
            for (int rule = 0; rule < 6; rule++) {
                for (int mark : new int[] {0, 1, MIN, INFINITE - 1, (INFINITE - 1) | MIN}) {
                    dueGoes(rule, bits, mark, rule % 2 == 1);
                }
            }
            dueGoes(4, bits, -1, false);
            dueGoes(5, bits, 0, true);
        }
    }

    private static void promise15Steps() {
        promise = "promise 15";
        BranchForge x = twoLevels();
        due("no predict", x.steps(), 0);
        x.predict();
        due("no code", x.steps(), 0);
        x.compile(400, 60);
        due("compile doesn't run", x.steps(), 0);
        x.reach(0);
        due("reach doesn't run", x.steps(), 0);
        x.predict();
        due("two splits and a leaf", x.steps(), 8);
        x.compile(20, 5);
        due("the latest predict, not the latest code", x.steps(), 8);
        x.predict();
        due("with a CALL and its RETURN", x.steps(), 10);
        x.tree(x.leaf(3));
        x.compile(20, 5);
        x.predict();
        due("two trees", x.steps(), 12);
        x.predict();
        due("not added up", x.steps(), 12);
        x.compile(1, 1);
        due("after a refusal", x.steps(), 12);
    }

    private static void promise16Calls() {
        promise = "promise 16";
        BranchForge x = twoLevels();
        due("no predict", x.calls(), 0);
        x.compile(20, 5);
        due("compile doesn't run", x.calls(), 0);
        x.predict();
        due("one CALL", x.calls(), 1);
        x.predict();
        due("not added up", x.calls(), 1);
        x.compile(400, 60);
        due("the latest predict, not the latest code", x.calls(), 1);
        x.predict();
        due("none", x.calls(), 0);
        x.compile(29, 7);
        x.predict();
        due("into the yes part", x.calls(), 1);
        x.set(0, 300);
        x.predict();
        due("not into the no part", x.calls(), 0);
        BranchForge y = chain(12, true);
        due("a method in a method", y.compile(20, 5), 12);
        y.set(0, MIN + 1);
        due("predict()", y.predict(), 12);
        due("CALLs", y.calls(), 11);
        due("steps()", y.steps(), 12 * 3 + 2 + 2 * 11);
    }

    private static void promise17Reach() {
        promise = "promise 17";
        BranchForge x = twoLevels();
        int leaf = x.leaf(9);
        x.tree(leaf);
        due("no code", x.reach(0), -1);
        x.compile(20, 5);
        due("reach(0)", x.reach(0), 0);
        due("reach(1)", x.reach(1), leaf);
        for (int t : new int[] {MIN, -1, 2, 8, 60, MAX}) {
            due("reach(" + t + ")", x.reach(t), -1);
        }
        x.set(1, 100);
        due("as the features are now", x.reach(0), 1);
        x.set(0, 300);
        due("no", x.reach(0), 2);
        x.set(2, 200);
        due("no and no", x.reach(0), 3);
        due("a later tree", x.tree(x.leaf(10)), 2);
        due("is not there yet", x.reach(2), -1);
        x.compile(20, 5);
        due("but now", x.reach(2), 8);
    }

    private static void allFeaturesAndRules() {
        promise = "all features and rules";
        for (int f = 0; f < 8; f++) {
            for (int rule = 0; rule < 6; rule++) {
                BranchForge x = new BranchForge();
                x.tree(x.split(rule, f, 2, x.leaf(1), x.leaf(2)));
                x.compile(20, 5);
                dueBytes(x, 0, 1, f, 2, 0, 10 + rule, 5, 2, 1, 3, 2, 2, 3);
                for (int g = 0; g < 8; g++) {
                    x.set(g, g == f ? ONE : ONE + ONE);
                }
                due("rule " + rule + " on feature " + f, x.predict(), rule >= 4 ? 1 : 2);
            }
        }
    }

    /** Sixty nodes in eight trees, and all arguments at their edges: nothing may be left out for want of room. */
    private static void fullObject() {
        promise = "full object";
        BranchForge x = new BranchForge();
        int[] roots = new int[8];
        for (int t = 0; t < 8; t++) {
            roots[t] = balanced(x, t < 2 ? 5 : 4, 10 * t + 1);
        }
        due("60 nodes", x.leaf(0), -1);
        for (int t = 0; t < 8; t++) {
            due("tree", x.tree(roots[t]), t);
        }
        int methods = x.compile(20, 60);
        due("methods()", x.methods(), methods);
        due("classes()", x.classes(), 2);
        long sum = 0;
        for (int t = 0; t < 8; t++) {
            int leaf = x.reach(t);
            sum += t == 0 ? 1 : 10 * t + 1;
            due("reach(" + t + ") is a node", leaf >= 0 && leaf < 60, true);
        }
        due("predict()", x.predict(), sum);
    }
}
