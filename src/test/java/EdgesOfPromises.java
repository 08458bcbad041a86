/** The boundary cases of the promises and of refused calls, a test for each sentence that names one. */
public final class EdgesOfPromises extends EdgeTest {
    public static void main(String[] args) {
        testRefusals();
        testPromises1To4();
        testPromise5();
        testPromises6To12();
        testPromises13To17();
        finish();
    }

    // "A call that is refused changes nothing."

    private static void testRefusals() {
        refusedLeaf();
        refusedSplit();
        refusedSplitWhenFull();
        refusedTree();
        refusedTreeWhenFull();
        refusedCompile();
        refusedCompileForTwice();
        refusedCompileForDangling();
        refusedCompileForDeep();
        refusedFirstCompile();
        refusedSet();
        refusedQuestions();
    }

    private static BranchForge filled(int nodes) {
        BranchForge x = inUse();
        for (int n = 7; n < nodes; n++) {
            x.leaf(n);
        }
        return x;
    }

    private static void addCode(StringBuilder all, BranchForge x) {
        int methods = x.methods();
        int classes = x.classes();
        all.append(" methods ").append(methods).append(" classes ").append(classes);
        for (int m = 0; m < methods; m++) {
            all.append(" class ").append(x.classOf(m)).append(" bytes");
            for (int p = 0; p < x.length(m); p++) {
                all.append(' ').append(x.byteAt(m, p));
            }
        }
        for (int c = 0; c < classes; c++) {
            all.append(" table");
            for (int k = 0; k < x.entries(c); k++) {
                all.append(' ').append(x.entry(c, k));
            }
        }
        for (int t = 0; t < 8; t++) {
            all.append(" reach ").append(x.reach(t));
        }
    }

    /** All that an object answers, at last to a new node, a new tree and a compile. */
    private static String answersOf(BranchForge x) {
        StringBuilder all = new StringBuilder();
        all.append("steps ").append(x.steps()).append(" calls ").append(x.calls());
        addCode(all, x);
        all.append(" predict ").append(x.predict());
        all.append(" steps ").append(x.steps()).append(" calls ").append(x.calls());
        int node = x.leaf(77);
        all.append(" leaf ").append(node).append(" tree ").append(x.tree(node));
        all.append(" compile ").append(x.compile(29, 60));
        addCode(all, x);
        all.append(" predict ").append(x.predict());
        return all.toString();
    }

    private static void refusedLeaf() {
        says("Terms", "A call that is refused changes nothing. (leaf)");
        BranchForge x = filled(60);
        due("leaf", x.leaf(-9), -1);
        dueSame("the object after the refusal", answersOf(x), answersOf(filled(60)));
        BranchForge last = filled(60);
        last.leaf(-9);
        last.tree(59);
        last.compile(20, 60);
        due("the last node is as it was", last.reach(1), 59);
        due("its value", last.predict() - 2, 59);
    }

    private static void refusedSplit() {
        says("Terms", "A call that is refused changes nothing. (split)");
        int[][] refused = {{-1, 0, 0, 0, 1}, {6, 0, 0, 0, 1}, {0, -1, 0, 0, 1}, {0, 8, 0, 0, 1}, {0, 0, INFINITE, 0, 1},
            {3, 0, -1, 0, 1}, {0, 0, 0, -1, 1}, {0, 0, 0, 60, 1}, {0, 0, 0, 0, -1}, {0, 0, 0, 0, 60}};
        for (int[] a : refused) {
            BranchForge x = inUse();
            due("split", x.split(a[0], a[1], a[2], a[3], a[4]), -1);
            dueSame("the object after the refusal", answersOf(x), answersOf(inUse()));
        }
    }

    private static void refusedSplitWhenFull() {
        says("Terms", "A call that is refused changes nothing. (split with 60 nodes)");
        BranchForge x = filled(60);
        due("split", x.split(0, 0, 0, 0, 1), -1);
        dueSame("the object after the refusal", answersOf(x), answersOf(filled(60)));
        x = filled(60);
        x.split(0, 0, 0, 0, 1);
        x.tree(59);
        due("the last node is still a leaf", x.compile(20, 60), 4);
    }

    private static void refusedTree() {
        says("Terms", "A call that is refused changes nothing. (tree)");
        for (int root : new int[] {MIN, -1, 7, 59, 60, MAX}) {
            BranchForge x = inUse();
            due("tree", x.tree(root), -1);
            dueSame("the object after the refusal", answersOf(x), answersOf(inUse()));
        }
    }

    private static BranchForge eightTreesInUse() {
        BranchForge x = filled(16);
        for (int n = 7; n < 14; n++) {
            x.tree(n);
        }
        x.compile(400, 60);
        return x;
    }

    private static void refusedTreeWhenFull() {
        says("Terms", "A call that is refused changes nothing. (tree with 8 trees)");
        BranchForge x = eightTreesInUse();
        due("tree", x.tree(15), -1);
        dueSame("the object after the refusal", answersOf(x), answersOf(eightTreesInUse()));
    }

    private static void refusedCompile() {
        says("Terms", "A call that is refused changes nothing. (compile)");
        int[][] refused = {{19, 60}, {401, 60}, {MIN, 60}, {MAX, 60}, {400, 61}, {20, 4}, {400, 59}, {20, MIN},
            {20, MAX}};
        for (int[] a : refused) {
            BranchForge x = inUse();
            due("compile", x.compile(a[0], a[1]), -1);
            dueSame("the object after the refusal", answersOf(x), answersOf(inUse()));
        }
        BranchForge later = inUse();
        later.tree(later.leaf(500));
        due("compile", later.compile(20, 4), -1);
        due("a new tree is not in the code", later.reach(1), -1);
        due("nor in the sum", later.predict(), 2);
    }

    private static void dueRefusedFor(String fault, BranchForge x, int answer) {
        String code = codeOf(x);
        due(fault, x.compile(400, 60), answer);
        dueSame("the code after the refusal", codeOf(x), code);
        due("steps()", x.steps(), 10);
        due("calls()", x.calls(), 1);
        due("predict()", x.predict(), 2);
        due(fault + " again", x.compile(20, 5), answer);
        dueSame("the code after another refusal", codeOf(x), code);
    }

    private static String codeOf(BranchForge x) {
        StringBuilder all = new StringBuilder();
        addCode(all, x);
        return all.toString();
    }

    private static void refusedCompileForTwice() {
        says("Terms", "A call that is refused changes nothing. (compile with a node that comes twice)");
        BranchForge x = inUse();
        x.tree(x.leaf(500));
        x.tree(6);
        dueRefusedFor("TWICE", x, -206);
    }

    private static void refusedCompileForDangling() {
        says("Terms", "A call that is refused changes nothing. (compile with a split that dangles)");
        BranchForge x = inUse();
        x.tree(x.split(0, 0, 0, 59, 59));
        dueRefusedFor("DANGLING", x, -107);
    }

    private static void refusedCompileForDeep() {
        says("Terms", "A call that is refused changes nothing. (compile with a node that is too deep)");
        BranchForge x = inUse();
        addChain(x, 7, 13, true);
        dueRefusedFor("DEEP", x, -320);
    }

    private static void refusedFirstCompile() {
        says("Terms", "A call that is refused changes nothing. (the first compile)");
        BranchForge x = twoLevels();
        due("compile(19, 60)", x.compile(19, 60), -1);
        due("compile(20, 4)", x.compile(20, 4), -1);
        dueNoCode(x);
        x.tree(6);
        due("compile with a fault", x.compile(20, 5), -206);
        dueNoCode(x);
    }

    private static void refusedSet() {
        says("Terms", "A call that is refused changes nothing. (set)");
        for (int f : new int[] {MIN, -8, -1, 8, 15, 16, MAX}) {
            BranchForge x = inUse();
            due("set", x.set(f, f == -1 || f == 15 ? 0 : 1000), false);
            dueSame("the object after the refusal", answersOf(x), answersOf(inUse()));
        }
    }

    private static void refusedQuestions() {
        says("Terms", "A call that is refused changes nothing. (questions about what is not there)");
        BranchForge x = inUse();
        for (int n : new int[] {MIN, -1, 3, 60, MAX}) {
            due("length", x.length(n), -1);
            due("byteAt", x.byteAt(n, 0), -1);
            due("classOf", x.classOf(n), -1);
            due("entries", x.entries(n), -1);
            due("entry", x.entry(n, 0), -1);
            due("reach", x.reach(n), -1);
        }
        dueSame("the object after the questions", answersOf(x), answersOf(inUse()));
    }

    // Promises 1 to 4.

    private static void testPromises1To4() {
        newObject();
        leafWith60Nodes();
        splitWith60Nodes();
        splitRule();
        splitFeature();
        splitMark();
        splitMarkOfBitRules();
        splitChildren();
        treeWith8Trees();
        treeRoot();
    }

    private static void newObject() {
        says("Promise 1", "No nodes, no trees, no code.");
        BranchForge other = inUse();
        BranchForge x = new BranchForge();
        dueNoCode(x);
        due("no node 0", x.tree(0), -1);
        due("no tree", x.compile(400, 60), -1);
        due("the first node", x.leaf(3), 0);
        due("still no tree", x.compile(400, 60), -1);
        due("the first tree", x.tree(0), 0);
        dueNoCode(x);
        due("another object keeps its own", other.predict(), 2);
    }

    private static void leafWith60Nodes() {
        says("Promise 2", "refused with -1 when there are 60 nodes");
        BranchForge x = leaves(59);
        due("leaf 59", x.leaf(59), 59);
        due("leaf 60", x.leaf(60), -1);
        due("again", x.leaf(60), -1);
        BranchForge y = new BranchForge();
        for (int n = 0; n < 60; n++) {
            y.split(0, 0, 0, 0, 1);
        }
        due("after 60 splits", y.leaf(0), -1);
    }

    private static void splitWith60Nodes() {
        says("Promise 3", "refused with -1 when there are 60 nodes");
        BranchForge x = leaves(59);
        due("split 59", x.split(0, 0, 0, 0, 1), 59);
        due("split 60", x.split(0, 0, 0, 0, 1), -1);
        due("again", x.split(5, 7, -1, 59, 59), -1);
    }

    private static void splitRule() {
        says("Promise 3", "rule is not 0 .. 5");
        BranchForge x = new BranchForge();
        for (int rule : new int[] {MIN, -2, -1, 6, 7, 10, 20, MAX}) {
            due("rule " + rule, x.split(rule, 0, 0, 0, 1), -1);
        }
        for (int rule = 0; rule < 6; rule++) {
            due("rule " + rule, x.split(rule, 0, 0, 0, 1), rule);
        }
    }

    private static void splitFeature() {
        says("Promise 3", "feature is not 0 .. 7");
        BranchForge x = new BranchForge();
        for (int feature : new int[] {MIN, -8, -1, 8, 9, 16, MAX}) {
            due("feature " + feature, x.split(0, feature, 0, 0, 1), -1);
            due("feature " + feature + ", rule 5", x.split(5, feature, 0, 0, 1), -1);
        }
        for (int feature = 0; feature < 8; feature++) {
            due("feature " + feature, x.split(0, feature, 0, 0, 1), feature);
        }
    }

    private static void splitMark() {
        says("Promise 3", "rule is 0 .. 3 and (mark & 2147483647) >= 2139095040");
        BranchForge x = new BranchForge();
        int made = 0;
        for (int rule = 0; rule < 4; rule++) {
            for (int mark : new int[] {INFINITE, INFINITE + 1, MAX}) {
                due("rule " + rule + ", mark " + mark, x.split(rule, 0, mark, 0, 1), -1);
                due("rule " + rule + ", mark " + (mark | MIN), x.split(rule, 0, mark | MIN, 0, 1), -1);
            }
            for (int mark : new int[] {0, 1, ONE, INFINITE - 1}) {
                due("rule " + rule + ", mark " + mark, x.split(rule, 0, mark, 0, 1), made++);
                due("rule " + rule + ", mark " + (mark | MIN), x.split(rule, 0, mark | MIN, 0, 1), made++);
            }
        }
    }

    private static void splitMarkOfBitRules() {
        says("Promise 3", "rule is 0 .. 3 and");
        BranchForge x = new BranchForge();
        int made = 0;
        for (int rule = 4; rule < 6; rule++) {
            for (int mark : new int[] {0, INFINITE - 1, INFINITE, INFINITE + 1, MAX}) {
                due("rule " + rule + ", mark " + mark, x.split(rule, 0, mark, 0, 1), made++);
                due("rule " + rule + ", mark " + (mark | MIN), x.split(rule, 0, mark | MIN, 0, 1), made++);
            }
        }
    }

    private static void splitChildren() {
        says("Promise 3", "yes or no is not 0 .. 59");
        BranchForge x = new BranchForge();
        for (int child : new int[] {MIN, -60, -1, 60, 61, MAX}) {
            due("yes " + child, x.split(0, 0, 0, child, 0), -1);
            due("no " + child, x.split(0, 0, 0, 0, child), -1);
            due("both " + child, x.split(4, 0, 0, child, child), -1);
        }
        due("0 and 59", x.split(0, 0, 0, 0, 59), 0);
        due("59 and 0", x.split(0, 0, 0, 59, 0), 1);
        due("59 and 59", x.split(0, 0, 0, 59, 59), 2);
        due("0 and 0", x.split(0, 0, 0, 0, 0), 3);
    }

    private static void treeWith8Trees() {
        says("Promise 4", "refused with -1 when there are 8 trees");
        BranchForge x = leaves(9);
        for (int t = 0; t < 8; t++) {
            due("tree " + t, x.tree(t), t);
        }
        due("tree 8", x.tree(8), -1);
        due("again", x.tree(0), -1);
    }

    private static void treeRoot() {
        says("Promise 4", "root is no node");
        BranchForge x = new BranchForge();
        due("0 without nodes", x.tree(0), -1);
        x.leaf(0);
        x.split(0, 0, 0, 2, 3);
        for (int root : new int[] {MIN, -1, 2, 3, 59, 60, MAX}) {
            due("tree(" + root + ")", x.tree(root), -1);
        }
        due("the first node", x.tree(0), 0);
        due("the last node, whose children are no nodes", x.tree(1), 1);
        due("a root may be given again", x.tree(0), 2);
    }

    // Promise 5.

    private static void testPromise5() {
        compileAsItIsNow();
        compileAgain();
        compileLimit();
        compileManyEntries();
        compileFewEntries();
        compileWithoutTrees();
        compileFaults();
        compileRefusalBeforeFault();
    }

    private static void compileAsItIsNow() {
        says("Promise 5",
            "Makes the code of the ensemble as it is now, with methods of at most limit bytes and tables of "
            + "at most entries entries");
        BranchForge x = twoLevels();
        x.compile(20, 5);
        x.tree(x.leaf(1000));
        due("a later tree is not in the code", x.predict(), 1);
        due("methods()", x.methods(), 3);
        due("compile", x.compile(20, 5), 4);
        due("now it is", x.predict(), 1001);
        BranchForge full = new BranchForge();
        full.tree(low(full, 30, 1));
        for (int limit = 20; limit <= 80; limit++) {
            int methods = full.compile(limit, limit / 4);
            for (int m = 0; m < methods; m += 7) {
                due("length within " + limit, full.length(m) <= limit, true);
            }
            int classes = full.classes();
            for (int c = 0; c < classes; c += 9) {
                due("entries within " + limit / 4, full.entries(c) <= limit / 4, true);
            }
        }
    }

    private static void compileAgain() {
        says("Promise 5", "the code before is gone");
        BranchForge x = twoLevels();
        due("three methods in three classes", x.compile(20, 5), 3);
        due("classes()", x.classes(), 3);
        due("one method in one class", x.compile(400, 60), 1);
        due("methods()", x.methods(), 1);
        due("classes()", x.classes(), 1);
        for (int n = 1; n < 3; n++) {
            due("length(" + n + ")", x.length(n), -1);
            due("byteAt(" + n + ", 0)", x.byteAt(n, 0), -1);
            due("classOf(" + n + ")", x.classOf(n), -1);
            due("entries(" + n + ")", x.entries(n), -1);
            due("entry(" + n + ", 0)", x.entry(n, 0), -1);
        }
        due("length(0)", x.length(0), 30);
        due("entries(0)", x.entries(0), 7);
        due("back again", x.compile(20, 5), 3);
        due("length(0)", x.length(0), 12);
        due("byteAt(0, 12)", x.byteAt(0, 12), -1);
        due("entries(0)", x.entries(0), 3);
        due("entry(0, 3)", x.entry(0, 3), -1);
    }

    private static void compileLimit() {
        says("Promise 5", "Refused with -1 when limit is not 20 .. 400");
        BranchForge x = oneSplit(0, 0);
        for (int limit : new int[] {MIN, -20, -1, 0, 1, 19, 401, 402, MAX}) {
            due("limit " + limit, x.compile(limit, 60), -1);
        }
        for (int limit : new int[] {20, 21, 399, 400}) {
            due("limit " + limit, x.compile(limit, 60), 1);
        }
    }

    private static void compileManyEntries() {
        says("Promise 5", "entries is more than 60");
        BranchForge x = oneSplit(0, 0);
        for (int limit : new int[] {20, 240, 244, 400}) {
            for (int entries : new int[] {61, 62, 100, MAX}) {
                due("compile(" + limit + ", " + entries + ")", x.compile(limit, entries), -1);
            }
            due("compile(" + limit + ", 60)", x.compile(limit, 60), 1);
        }
    }

    private static void compileFewEntries() {
        says("Promise 5", "or less than 60 and less than limit / 4 (the remainder left out)");
        BranchForge x = oneSplit(0, 0);
        int[][] least = {{20, 5}, {21, 5}, {23, 5}, {24, 6}, {27, 6}, {28, 7}, {39, 9}, {40, 10}, {235, 58}, {236, 59},
            {239, 59}};
        for (int[] pair : least) {
            due("compile(" + pair[0] + ", " + pair[1] + ")", x.compile(pair[0], pair[1]), 1);
            due("compile(" + pair[0] + ", " + (pair[1] - 1) + ")", x.compile(pair[0], pair[1] - 1), -1);
        }
        // From 240 on limit / 4 is 60 and more, so that only 60 is left.
        for (int limit : new int[] {240, 243, 244, 399, 400}) {
            due("compile(" + limit + ", 59)", x.compile(limit, 59), -1);
            due("compile(" + limit + ", 60)", x.compile(limit, 60), 1);
        }
        for (int entries : new int[] {MIN, -60, -1, 0, 1}) {
            due("compile(20, " + entries + ")", x.compile(20, entries), -1);
        }
    }

    private static void compileWithoutTrees() {
        says("Promise 5", "or there is no tree");
        BranchForge x = new BranchForge();
        due("no node", x.compile(20, 5), -1);
        x.leaf(0);
        due("nodes alone", x.compile(20, 5), -1);
        x.tree(5);
        due("a tree that was refused", x.compile(20, 5), -1);
        x.tree(0);
        due("a tree", x.compile(20, 5), 1);
    }

    private static void compileFaults() {
        says("Promise 5",
            "refused with -(100 * kind + n) for a fault: n is the node that was come to (for DANGLING, the split)");
        due("DANGLING", BranchForge.DANGLING, 1);
        due("TWICE", BranchForge.TWICE, 2);
        due("DEEP", BranchForge.DEEP, 3);
        BranchForge dangling = leaves(59);
        dangling.tree(dangling.split(0, 0, 0, 0, 0));
        due("TWICE at node 0", dangling.compile(20, 5), -200);
        BranchForge first = new BranchForge();
        first.tree(first.split(0, 0, 0, 58, 59));
        due("DANGLING at node 0", first.compile(20, 5), -100);
        BranchForge last = leaves(58);
        last.tree(last.split(0, 0, 0, 0, 59));
        due("DANGLING at node 58, not at the child 59", last.compile(20, 5), -158);
        BranchForge twice = leaves(59);
        twice.tree(twice.split(0, 0, 0, 59, 1));
        due("TWICE at node 59", twice.compile(20, 5), -259);
        BranchForge deepFirst = leaves(1);
        for (int n = 1; n < 14; n++) {
            deepFirst.split(0, 0, 0, n - 1, 13 + n);
        }
        for (int n = 14; n < 27; n++) {
            deepFirst.leaf(n);
        }
        deepFirst.tree(13);
        due("DEEP at node 0", deepFirst.compile(20, 5), -300);
        BranchForge deepLast = leaves(33);
        addChain(deepLast, 33, 13, false);
        due("DEEP at node 59", deepLast.compile(20, 5), -359);
    }

    private static void compileRefusalBeforeFault() {
        says("Promise 5", "Refused with -1 when");
        BranchForge x = leaves(1);
        x.tree(0);
        x.tree(0);
        due("a fault alone", x.compile(20, 5), -200);
        due("a limit that is refused, and a fault", x.compile(19, 5), -1);
        due("entries that are refused, and a fault", x.compile(20, 61), -1);
    }

    // Promises 6 to 12.

    private static void testPromises6To12() {
        methodsWithoutCode();
        lengthOfNoMethod();
        byteOfNoMethod();
        byteThatIsNotThere();
        classOfNoMethod();
        classesWithoutCode();
        entriesOfNoClass();
        bitsOfEntry();
        entryOfNoClass();
        entryThatIsNotThere();
    }

    /** Numbers of which none is a method or a class of the code that {@link #inUse()} has, which has three of each. */
    private static final int[] NOT_THERE = {MIN, -3, -1, 3, 4, 59, 60, 61, 1000, MAX};

    private static void methodsWithoutCode() {
        says("Promise 6", "0 when there is none");
        BranchForge x = twoLevels();
        due("before", x.methods(), 0);
        x.compile(400, 61);
        due("after a refusal", x.methods(), 0);
        x.compile(20, 5);
        due("after a compile", x.methods(), 3);
    }

    private static void lengthOfNoMethod() {
        says("Promise 7", "-1 when there is no such method");
        due("no code", twoLevels().length(0), -1);
        BranchForge x = inUse();
        for (int m : NOT_THERE) {
            due("length(" + m + ")", x.length(m), -1);
        }
        due("length(0)", x.length(0), 12);
        due("length(2)", x.length(2), 12);
    }

    private static void byteOfNoMethod() {
        says("Promise 8", "-1 when there is no such method");
        due("no code", twoLevels().byteAt(0, 0), -1);
        BranchForge x = inUse();
        for (int m : NOT_THERE) {
            due("byteAt(" + m + ", 0)", x.byteAt(m, 0), -1);
            due("byteAt(" + m + ", -1)", x.byteAt(m, -1), -1);
        }
        due("byteAt(0, 0)", x.byteAt(0, 0), 1);
        due("byteAt(2, 0)", x.byteAt(2, 0), 1);
    }

    private static void byteThatIsNotThere() {
        says("Promise 8", "or byte");
        BranchForge x = inUse();
        for (int m = 0; m < 3; m++) {
            for (int p : new int[] {MIN, -12, -1, 12, 13, 24, MAX}) {
                due("byteAt(" + m + ", " + p + ")", x.byteAt(m, p), -1);
            }
            due("the first", x.byteAt(m, 0), 1);
            due("the last", x.byteAt(m, 11), 3);
        }
    }

    private static void classOfNoMethod() {
        says("Promise 9", "-1 when there is no such method");
        due("no code", twoLevels().classOf(0), -1);
        BranchForge x = inUse();
        for (int m : NOT_THERE) {
            due("classOf(" + m + ")", x.classOf(m), -1);
        }
        due("classOf(0)", x.classOf(0), 0);
        due("classOf(2)", x.classOf(2), 2);
    }

    private static void classesWithoutCode() {
        says("Promise 10", "0 when there is no code");
        BranchForge x = twoLevels();
        due("before", x.classes(), 0);
        x.compile(20, 4);
        due("after a refusal", x.classes(), 0);
        x.compile(20, 5);
        due("after a compile", x.classes(), 3);
    }

    private static void entriesOfNoClass() {
        says("Promise 11", "-1 when there is no such class");
        due("no code", twoLevels().entries(0), -1);
        BranchForge x = inUse();
        for (int c : NOT_THERE) {
            due("entries(" + c + ")", x.entries(c), -1);
        }
        due("entries(0)", x.entries(0), 3);
        due("entries(2)", x.entries(2), 3);
    }

    private static void bitsOfEntry() {
        says("Promise 12", "its kind times 2^32, plus its bits taken as a number 0 .. 2^32 - 1");
        int[] bits = {0, 1, MAX, MIN, -1};
        long[] taken = {0, 1, 2147483647L, 2147483648L, 4294967295L};
        for (int i = 0; i < bits.length; i++) {
            BranchForge x = new BranchForge();
            x.tree(x.split(4, 0, bits[i], x.leaf(bits[i]), x.leaf(9)));
            x.compile(20, 5);
            due("a mark " + bits[i], x.entry(0, 0), 3 * TWO_TO_32 + taken[i]);
            due("a value " + bits[i], x.entry(0, 1), 2 * TWO_TO_32 + taken[i]);
        }
        BranchForge y = oneSplit(0, INFINITE - 1 | MIN);
        y.compile(20, 5);
        due("the lowest mark", y.entry(0, 0), TWO_TO_32 + 2147483648L + 2139095039L);
    }

    private static void entryOfNoClass() {
        says("Promise 12", "-1 when there is no such class");
        due("no code", twoLevels().entry(0, 0), -1);
        BranchForge x = inUse();
        for (int c : NOT_THERE) {
            due("entry(" + c + ", 0)", x.entry(c, 0), -1);
            due("entry(" + c + ", -1)", x.entry(c, -1), -1);
        }
        due("entry(0, 0)", x.entry(0, 0), entryOf(1, 100));
        due("entry(2, 0)", x.entry(2, 0), entryOf(1, 300));
    }

    private static void entryThatIsNotThere() {
        says("Promise 12", "or entry");
        BranchForge x = inUse();
        long[] last = {entryOf(2, 2), entryOf(2, 8), entryOf(4, 1)};
        for (int c = 0; c < 3; c++) {
            for (int k : new int[] {MIN, -3, -1, 3, 4, 60, MAX}) {
                due("entry(" + c + ", " + k + ")", x.entry(c, k), -1);
            }
            due("the last", x.entry(c, 2), last[c]);
        }
    }

    // Promises 13 to 17.

    private static void testPromises13To17() {
        setNoFeature();
        sumIsALong();
        predictWithoutCode();
        latestSteps();
        stepsWithoutPredict();
        callsOfTheLatest();
        reachAsTheFeaturesAre();
        reachOfALaterTree();
        reachWithoutCode();
    }

    private static void setNoFeature() {
        says("Promise 13", "False when there is no such feature.");
        BranchForge x = new BranchForge();
        for (int f : new int[] {MIN, -8, -1, 8, 9, 16, MAX}) {
            due("set(" + f + ", 1)", x.set(f, 1), false);
        }
        for (int f = 0; f < 8; f++) {
            for (int bits : new int[] {MIN, -1, 0, INFINITE + 1, MAX}) {
                due("set(" + f + ", " + bits + ")", x.set(f, bits), true);
            }
        }
    }

    private static void sumIsALong() {
        says("Promise 14", "Answers the sum of their results (a long");
        for (int value : new int[] {MAX, MIN, -1, 0}) {
            BranchForge x = new BranchForge();
            for (int t = 0; t < 8; t++) {
                x.tree(x.leaf(value));
            }
            x.compile(20, 5);
            due("8 times " + value, x.predict(), 8L * value);
        }
    }

    private static void predictWithoutCode() {
        says("Promise 14", "0 when there is no code");
        BranchForge x = new BranchForge();
        due("a new object", x.predict(), 0);
        x.tree(x.leaf(5));
        due("a tree, but no code", x.predict(), 0);
        x.compile(19, 5);
        due("a compile that was refused", x.predict(), 0);
        x.compile(20, 5);
        due("code", x.predict(), 5);
    }

    private static void latestSteps() {
        says("Promise 15", "How many instructions the latest predict() did");
        BranchForge x = twoLevels();
        x.compile(400, 60);
        x.predict();
        due("two splits and a leaf", x.steps(), 8);
        x.predict();
        due("not added up", x.steps(), 8);
        x.compile(20, 5);
        x.reach(0);
        x.set(0, 1000);
        due("no predict() since", x.steps(), 8);
        x.predict();
        due("with CALL and one more RETURN", x.steps(), 10);
        BranchForge leaf = leaves(8);
        for (int t = 0; t < 8; t++) {
            leaf.tree(t);
        }
        leaf.compile(20, 5);
        leaf.predict();
        due("8 leaves", leaf.steps(), 16);
        // The longest way: 12 splits, each but the last with a CALL, and a leaf.
        BranchForge row = chain(12, true);
        row.compile(20, 5);
        row.set(0, 1 | MIN);
        row.predict();
        due("12 splits and 11 CALLs", row.steps(), 12 * 3 + 2 + 11 * 2);
    }

    private static void stepsWithoutPredict() {
        says("Promise 15", "0 when there was none");
        BranchForge x = twoLevels();
        due("a new object", x.steps(), 0);
        x.compile(20, 5);
        x.reach(0);
        due("code, but no predict()", x.steps(), 0);
        BranchForge y = twoLevels();
        y.predict();
        due("predict() without code", y.steps(), 0);
    }

    private static void callsOfTheLatest() {
        says("Promise 16", "How many of these were CALL.");
        BranchForge x = twoLevels();
        due("no predict()", x.calls(), 0);
        x.compile(29, 60);
        x.reach(0);
        due("code, but no predict()", x.calls(), 0);
        x.predict();
        due("yes is cut out", x.calls(), 1);
        x.predict();
        due("not added up", x.calls(), 1);
        x.set(0, 300);
        due("no predict() since", x.calls(), 1);
        x.predict();
        due("no is not", x.calls(), 0);
        BranchForge row = chain(12, true);
        row.compile(20, 5);
        row.set(0, 1 | MIN);
        row.predict();
        due("a method in a method", row.calls(), 11);
        row.compile(400, 60);
        row.predict();
        due("one method", row.calls(), 0);
    }

    private static void reachAsTheFeaturesAre() {
        says("Promise 17",
            "The leaf to which the features, as they are now, go in tree t, from its root on: its number");
        BranchForge x = twoLevels();
        x.compile(20, 5);
        due("at first", x.reach(0), 0);
        x.set(7, 100);
        due("no predict() is needed", x.reach(0), 1);
        x.set(0, 300);
        due("no", x.reach(0), 2);
        x.set(3, 200);
        due("no and no", x.reach(0), 3);
        BranchForge leaf = leaves(60);
        leaf.tree(59);
        leaf.tree(0);
        leaf.compile(20, 5);
        due("a root that is a leaf", leaf.reach(0), 59);
        due("node 0", leaf.reach(1), 0);
        BranchForge row = chain(12, true);
        row.compile(400, 60);
        row.set(0, 1 | MIN);
        due("the leaf with 12 nodes above it", row.reach(0), 12);
    }

    private static void reachOfALaterTree() {
        says("Promise 17", "-1 when tree t was not in the ensemble when the code was made");
        BranchForge x = leaves(8);
        x.tree(3);
        x.compile(20, 5);
        for (int t : new int[] {MIN, -1, 1, 2, 7, 8, MAX}) {
            due("reach(" + t + ")", x.reach(t), -1);
        }
        due("a later tree", x.tree(4), 1);
        due("is not in the code", x.reach(1), -1);
        due("the tree before is", x.reach(0), 3);
        x.compile(19, 5);
        due("nor after a compile that was refused", x.reach(1), -1);
        x.compile(20, 5);
        due("but after the next", x.reach(1), 4);
        due("and none behind it", x.reach(2), -1);
    }

    private static void reachWithoutCode() {
        says("Promise 17", "or there is no code");
        BranchForge x = leaves(1);
        due("no tree", x.reach(0), -1);
        x.tree(0);
        due("a tree, but no code", x.reach(0), -1);
        x.compile(20, 4);
        due("a compile that was refused", x.reach(0), -1);
        x.compile(20, 5);
        due("code", x.reach(0), 0);
    }
}
