/** The boundary cases of features, nodes, rules and checking, a test for each sentence that names one. */
public final class EdgesOfTrees extends EdgeTest {
    public static void main(String[] args) {
        testObject();
        testFeatures();
        testNodes();
        testRules();
        testChecking();
        finish();
    }

    // "What it is".

    private static void testObject() {
        says("What it is", "An object is used for at most 512 calls after it has been made");
        BranchForge x = leaves(60);
        for (int t = 0; t < 8; t++) {
            x.tree(52 + t);
        }
        int made = 68;
        for (int call = made + 1; call < 511; call++) {
            due("compile, call " + call, x.compile(20, 5), 8);
        }
        due("predict(), call 511", x.predict(), 52 + 53 + 54 + 55 + 56 + 57 + 58 + 59);
        due("reach(7), call 512", x.reach(7), 59);
    }

    // "Terms": features.

    private static void testFeatures() {
        featuresAtFirst();
        missing();
        orderFromZeroOn();
        orderBelowZero();
        wholeZero();
        wholeOneAndMore();
    }

    private static void featuresAtFirst() {
        says("Terms", "FEATURES 0 .. 7 hold bits, an int each, at first 0.");
        for (int f = 0; f < 8; f++) {
            BranchForge x = new BranchForge();
            x.tree(x.split(0, f, 1, x.leaf(1), x.leaf(2)));
            x.tree(x.split(2, f, 1 | MIN, x.leaf(4), x.leaf(8)));
            x.compile(20, 5);
            due("not above 0, not below: feature " + f, x.predict(), 1 + 8);
            for (int bits : new int[] {MAX, MIN, -1, 1}) {
                x.set(f, bits);
                due("feature " + f + " holds " + bits, x.predict(), bits == MIN ? 1 + 8 : 2 + 8);
            }
        }
    }

    private static void missing() {
        says("Terms", "Bits b are MISSING when (b & 2147483647) > 2139095040");
        int lowest = (INFINITE - 1) | MIN;
        dueGoes(3, INFINITE, INFINITE - 1, false);
        dueGoes(2, INFINITE | MIN, lowest, true);
        for (int above : new int[] {INFINITE + 1, INFINITE + 2, MAX}) {
            dueGoes(3, above, INFINITE - 1, true);
            dueGoes(2, above | MIN, lowest, false);
        }
        dueGoes(2, -1, 0, false);
    }

    private static void orderFromZeroOn() {
        says("Terms", "other bits have an ORDER, an int: b itself if b >= 0");
        int[] rising = {0, 1, 2, ONE - 1, ONE, ONE + 1, INFINITE - 1};
        for (int i = 1; i < rising.length; i++) {
            dueGoes(0, rising[i - 1], rising[i], true);
            dueGoes(2, rising[i], rising[i - 1], false);
        }
        dueGoes(2, INFINITE, INFINITE - 1, false);
    }

    private static void orderBelowZero() {
        says("Terms", "otherwise -(b & 2147483647)");
        int[] falling = {0, 1 | MIN, 2 | MIN, ONE | MIN, ONE + 1 | MIN, INFINITE - 1 | MIN};
        for (int i = 1; i < falling.length; i++) {
            dueGoes(0, falling[i], falling[i - 1], true);
            dueGoes(2, falling[i - 1], falling[i], false);
        }
        dueGoes(0, INFINITE | MIN, INFINITE - 1 | MIN, true);
        // The order of -2147483648 is 0, so the two zeros are alike.
        dueGoes(0, MIN, 0, false);
        dueGoes(0, 0, MIN, false);
        dueGoes(2, MIN, 0, true);
        dueGoes(2, 0, MIN, true);
        dueGoes(0, MIN, 1, true);
        dueGoes(2, MIN, 1 | MIN, false);
    }

    private static void wholeZero() {
        says("Terms", "The bits of a WHOLE number w are 0 or -2147483648 for w = 0");
        for (int rule = 4; rule < 6; rule++) {
            dueGoes(rule, 0, 1, true);
            dueGoes(rule, 0, ~1, false);
            dueGoes(rule, MIN, 1, true);
            dueGoes(rule, MIN, ~1, false);
            for (int beside : new int[] {1, 1 | MIN, 8388607, 8388608, 8388608 | MIN}) {
                dueGoes(rule, beside, -1, false);
            }
        }
    }

    private static void wholeOneAndMore() {
        says("Terms", "for w >= 1 the one int (127 + e) * 2^23 + w * 2^(23 - e) - 2^23, where 2^e <= w < 2^(e + 1)");
        for (int w = 1; w < 32; w++) {
            int e = 0;
            while (1 << e + 1 <= w) {
                e++;
            }
            int bits = (127 + e) * (1 << 23) + w * (1 << 23 - e) - (1 << 23);
            dueGoes(4, bits, 1 << w, true);
            dueGoes(4, bits, ~(1 << w), false);
            for (int other : new int[] {bits - 1, bits + 1, bits | MIN, bits + (1 << 22 - e), w}) {
                dueGoes(5, other, -1, false);
            }
        }
    }

    // "Terms": nodes.

    private static void testNodes() {
        nodeNumbers();
        leafValues();
        childrenThatComeLater();
        eightTrees();
    }

    private static void nodeNumbers() {
        says("Terms", "NODES have numbers 0, 1, .. in the order in which they were made, at most 60.");
        BranchForge x = new BranchForge();
        for (int n = 0; n < 60; n++) {
            due("node " + n, n % 2 == 0 ? x.leaf(n) : x.split(0, 0, 0, 0, n - 1), n);
        }
        due("leaf(60)", x.leaf(60), -1);
        due("split", x.split(0, 0, 0, 0, 2), -1);
        x.tree(58);
        due("compile", x.compile(20, 5), 1);
        due("node 58 is what was made then", x.predict(), 58);
    }

    private static void leafValues() {
        says("Terms", "A LEAF has a value, any int.");
        for (int value : new int[] {MIN, MIN + 1, -1, 0, 1, INFINITE, INFINITE + 1, MAX}) {
            BranchForge x = new BranchForge();
            due("leaf(" + value + ")", x.leaf(value), 0);
            x.tree(0);
            x.compile(20, 5);
            due("entry(0, 0)", x.entry(0, 0), entryOf(2, value));
            due("predict()", x.predict(), value);
        }
    }

    private static void childrenThatComeLater() {
        says("Terms", "two CHILDREN, yes and no: numbers of nodes, which need not be there yet");
        BranchForge x = new BranchForge();
        due("split", x.split(0, 0, 1, 58, 59), 0);
        x.tree(0);
        for (int n = 1; n < 59; n++) {
            x.leaf(100 + n);
        }
        due("59 is not there yet", x.compile(20, 5), -100);
        due("node 59", x.leaf(159), 59);
        due("now it is", x.compile(20, 5), 1);
        due("yes", x.predict(), 158);
        x.set(0, 1);
        due("no", x.predict(), 159);
    }

    private static void eightTrees() {
        says("Terms", "An ENSEMBLE is a row of at most 8 trees, each given by its root, a node.");
        BranchForge x = leaves(10);
        int root = x.split(0, 0, 1, 8, 9);
        for (int t = 0; t < 7; t++) {
            due("tree " + t, x.tree(t), t);
        }
        due("tree 7", x.tree(root), 7);
        due("tree 8", x.tree(7), -1);
        due("compile", x.compile(20, 5), 8);
        due("the sum of 8", x.predict(), 21 + 8);
        due("reach(7)", x.reach(7), 8);
        due("reach(8)", x.reach(8), -1);
    }

    // "Terms": where a feature goes.

    private static void testRules() {
        missingGoes();
        less();
        notGreater();
        bitOfMark();
    }

    private static void missingGoes() {
        says("Terms", "if x is missing, to yes for an odd rule, to no for an even one");
        for (int bits : new int[] {INFINITE + 1, INFINITE + 1 | MIN, MAX, -1}) {
            for (int rule = 0; rule < 6; rule++) {
                for (int mark : new int[] {0, INFINITE - 1, INFINITE - 1 | MIN}) {
                    dueGoes(rule, bits, mark, rule % 2 == 1);
                }
            }
            dueGoes(4, bits, -1, false);
            dueGoes(5, bits, -1, true);
            dueGoes(4, bits, bits, false);
            dueGoes(5, bits, bits, true);
        }
    }

    private static void less() {
        says("Terms", "rules 0, 1: the order of x is less than that of the mark");
        for (int rule = 0; rule < 2; rule++) {
            for (int mark : new int[] {ONE, 2, INFINITE - 1}) {
                dueGoes(rule, mark - 1, mark, true);
                dueGoes(rule, mark, mark, false);
                dueGoes(rule, mark + 1, mark, false);
                dueGoes(rule, mark - 1 | MIN, mark | MIN, false);
                dueGoes(rule, mark | MIN, mark | MIN, false);
                dueGoes(rule, mark + 1 | MIN, mark | MIN, true);
            }
        }
    }

    private static void notGreater() {
        says("Terms", "rules 2, 3: it is not greater");
        for (int rule = 2; rule < 4; rule++) {
            for (int mark : new int[] {ONE, 2, INFINITE - 1}) {
                dueGoes(rule, mark - 1, mark, true);
                dueGoes(rule, mark, mark, true);
                dueGoes(rule, mark + 1, mark, false);
                dueGoes(rule, mark - 1 | MIN, mark | MIN, false);
                dueGoes(rule, mark | MIN, mark | MIN, true);
                dueGoes(rule, mark + 1 | MIN, mark | MIN, true);
            }
        }
    }

    private static void bitOfMark() {
        says("Terms", "rules 4, 5: x is the bits of a whole number w from 0 to 31, and bit w of the mark is set");
        for (int rule = 4; rule < 6; rule++) {
            for (int w : new int[] {0, 1, 30, 31}) {
                int bits = Float.floatToIntBits(w);
                dueGoes(rule, bits, 1 << w, true);
                dueGoes(rule, bits, ~(1 << w), false);
                dueGoes(rule, bits, -1, true);
                dueGoes(rule, bits, 0, false);
            }
            // A shift by 32 or 33 would come round to bit 0 or 1, one by -1 to bit 31.
            for (float beside : new float[] {-1, -31, 0.5f, 30.5f, 31.5f, 32, 33, 63, 64, 1e9f, -1e9f}) {
                dueGoes(rule, Float.floatToIntBits(beside), -1, false);
            }
            dueGoes(rule, INFINITE, -1, false);
            dueGoes(rule, INFINITE | MIN, -1, false);
        }
    }

    // "Terms": checking.

    private static void testChecking() {
        checkTreesInOrder();
        checkYesBeforeNo();
        firstFaultCounts();
        twiceInThisTree();
        twiceInAnEarlierTree();
        deep();
        danglingYes();
        danglingNo();
        onlyTheTreesAreChecked();
    }

    private static void checkTreesInOrder() {
        says("Terms, to check", "the trees are gone through in their order");
        BranchForge x = new BranchForge();
        x.split(0, 0, 0, 50, 50);
        x.split(0, 0, 0, 51, 51);
        x.tree(1);
        x.tree(0);
        due("tree 0 has the higher root", x.compile(400, 60), -101);
        BranchForge y = leaves(1);
        y.split(0, 0, 0, 51, 51);
        y.tree(0);
        y.tree(1);
        due("the fault of a later tree", y.compile(400, 60), -101);
    }

    private static void checkYesBeforeNo() {
        says("Terms, to check", "a node, then all of its yes child, then all of its no child");
        BranchForge x = new BranchForge();
        x.split(0, 0, 0, 2, 1);
        x.split(0, 0, 0, 50, 50);
        x.split(0, 0, 0, 3, 4);
        x.leaf(0);
        x.split(0, 0, 0, 51, 51);
        x.tree(0);
        due("the last node below yes", x.compile(400, 60), -104);
        BranchForge y = new BranchForge();
        y.split(0, 0, 0, 2, 1);
        y.split(0, 0, 0, 50, 50);
        y.leaf(0);
        y.tree(0);
        due("no, when yes has no fault", y.compile(400, 60), -101);
        BranchForge z = new BranchForge();
        z.split(0, 0, 0, 1, 50);
        z.split(0, 0, 0, 0, 0);
        z.tree(0);
        due("the node itself first", z.compile(400, 60), -100);
    }

    private static void firstFaultCounts() {
        says("Terms, to check", "The first FAULT that is met counts.");
        BranchForge x = leaves(1);
        x.split(0, 0, 0, 0, 2);
        x.split(0, 0, 0, 0, 59);
        x.tree(1);
        x.tree(1);
        due("dangling before the leaf and the root that come twice", x.compile(400, 60), -102);
        BranchForge y = leaves(2);
        y.split(0, 0, 0, 0, 3);
        y.split(0, 0, 0, 0, 4);
        y.split(0, 0, 0, 59, 59);
        y.tree(2);
        due("twice before the one that dangles", y.compile(400, 60), -200);
        BranchForge z = chain(13, true);
        z.tree(13);
        z.tree(z.split(0, 0, 0, 59, 59));
        due("deep before the others", z.compile(400, 60), -313);
    }

    private static void twiceInThisTree() {
        says("Terms, to check", "TWICE if it was come to before (in this tree");
        BranchForge same = leaves(1);
        same.tree(same.split(0, 0, 0, 0, 0));
        due("both children of a split", same.compile(400, 60), -200);
        BranchForge self = leaves(1);
        self.tree(self.split(0, 0, 0, 1, 0));
        due("its own yes child", self.compile(400, 60), -201);
        BranchForge selfByNo = leaves(1);
        selfByNo.tree(selfByNo.split(0, 0, 0, 0, 1));
        due("its own no child", selfByNo.compile(400, 60), -201);
        BranchForge above = leaves(2);
        above.split(0, 0, 0, 3, 1);
        above.split(0, 0, 0, 0, 2);
        above.tree(2);
        due("the node above", above.compile(400, 60), -202);
        // Twice is looked at before deep: the root comes again with 13 nodes above it.
        BranchForge deep = new BranchForge();
        for (int n = 0; n < 13; n++) {
            deep.split(0, 0, 0, (n + 1) % 13, 13 + n);
        }
        for (int n = 0; n < 13; n++) {
            deep.leaf(n);
        }
        deep.tree(0);
        due("twice where it is deep", deep.compile(400, 60), -200);
        // And before dangling: node 0 would only dangle if it were looked at again.
        BranchForge split = new BranchForge();
        split.split(0, 0, 0, 1, 1);
        split.split(0, 0, 0, 2, 3);
        split.leaf(0);
        split.leaf(1);
        split.tree(0);
        due("a split that comes twice", split.compile(400, 60), -201);
    }

    private static void twiceInAnEarlierTree() {
        says("Terms, to check", "or an earlier one)");
        BranchForge root = leaves(2);
        root.tree(1);
        root.tree(0);
        due("two trees", root.compile(400, 60), 2);
        root.tree(1);
        due("the root of the first", root.compile(400, 60), -201);
        BranchForge leaf = leaves(3);
        leaf.tree(leaf.split(0, 0, 0, 0, 1));
        leaf.tree(leaf.split(0, 0, 0, 2, 1));
        due("a leaf in both", leaf.compile(400, 60), -201);
        BranchForge again = oneSplit(0, 0);
        due("compile", again.compile(400, 60), 1);
        due("an earlier compile doesn't count", again.compile(400, 60), 1);
    }

    private static void deep() {
        says("Terms, to check", "else DEEP if more than 12 nodes are above it in its tree");
        due("12 above", chain(12, true).compile(400, 60), 1);
        due("13 above", chain(13, true).compile(400, 60), -313);
        due("12 above, by no", chain(12, false).compile(400, 60), 1);
        // By no, the leaf at the yes side of the thirteenth split is come to first.
        due("13 above, by no", chain(13, false).compile(400, 60), -326);
        due("14 above: the first that is deep", chain(14, true).compile(400, 60), -313);
        BranchForge two = chain(12, true);
        addChain(two, 25, 12, false);
        due("12 above in each of two trees", two.compile(400, 60), 2);
        BranchForge second = leaves(1);
        second.tree(0);
        addChain(second, 1, 13, true);
        due("13 above in the second tree", second.compile(400, 60), -314);
        BranchForge dangling = new BranchForge();
        for (int n = 0; n < 14; n++) {
            dangling.split(0, 0, 0, n == 13 ? 59 : n + 1, n == 13 ? 59 : 14 + n);
        }
        for (int n = 0; n < 13; n++) {
            dangling.leaf(n);
        }
        dangling.tree(0);
        due("deep before dangling", dangling.compile(400, 60), -313);
    }

    private static void danglingYes() {
        says("Terms, to check", "if it is a split and its yes child is no node");
        BranchForge x = leaves(2);
        x.tree(x.split(0, 0, 0, 3, 0));
        due("the number after the last", x.compile(400, 60), -102);
        x.leaf(3);
        due("is a node now", x.compile(400, 60), 1);
        BranchForge y = leaves(2);
        y.tree(y.split(0, 0, 0, 59, 0));
        due("59", y.compile(400, 60), -102);
    }

    private static void danglingNo() {
        says("Terms, to check", "or its no child is none, DANGLING");
        BranchForge x = leaves(2);
        x.tree(x.split(0, 0, 0, 0, 3));
        due("the number after the last", x.compile(400, 60), -102);
        x.leaf(3);
        due("is a node now", x.compile(400, 60), 1);
        BranchForge y = leaves(2);
        y.tree(y.split(0, 0, 0, 0, 59));
        due("59", y.compile(400, 60), -102);
        BranchForge z = leaves(2);
        z.tree(z.split(0, 0, 0, 3, 3));
        due("both", z.compile(400, 60), -102);
    }

    private static void onlyTheTreesAreChecked() {
        says("Terms, to check", "the trees are gone through");
        BranchForge x = leaves(1);
        x.split(0, 0, 0, 59, 59);
        x.split(0, 0, 0, 0, 0);
        x.split(0, 0, 0, 3, 3);
        x.tree(0);
        due("faults outside of the trees", x.compile(400, 60), 1);
    }
}
