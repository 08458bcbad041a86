/**
 * What the tests of the boundary cases share: they say which sentence is tested, compare answers and make trees. No test
 * makes more than 512 calls on one object, since the document promises nothing behind that.
 */
abstract class EdgeTest {
    static final int MIN = Integer.MIN_VALUE;
    static final int MAX = Integer.MAX_VALUE;
    static final long TWO_TO_32 = 4294967296L;
    /** The bits from which on a mark of rules 0 to 3 is refused, and behind which bits are missing. */
    static final int INFINITE = 2139095040;
    static final int ONE = 1065353216;

    private static int sentences = 0;
    private static int wrong = 0;
    private static String sentence = "";

    /** Begins the test of a sentence: where it stands in the document, and its words. */
    static void says(String where, String words) {
        sentences++;
        sentence = where + ": \"" + words + "\"";
    }

    static void due(String what, long got, long want) {
        if (got != want) {
            wrong++;
            System.out.println(sentence + ": " + what + " answered " + got + ", due is " + want);
        }
    }

    static void due(String what, boolean got, boolean want) {
        due(what, got ? 1 : 0, want ? 1 : 0);
    }

    static void dueSame(String what, String got, String want) {
        if (!got.equals(want)) {
            wrong++;
            System.out.println(sentence + ": " + what + " answered\n  " + got + ", due is\n  " + want);
        }
    }

    static void finish() {
        System.out.println(sentences + " sentences tested, " + wrong + " answers are not as due");
        if (wrong != 0) {
            System.exit(1);
        }
    }

    static BranchForge leaves(int count) {
        BranchForge x = new BranchForge();
        for (int n = 0; n < count; n++) {
            x.leaf(n);
        }
        return x;
    }

    /** Leaves 0 and 1 (values 10 and 20) under split 2 on feature 0; the only tree. */
    static BranchForge oneSplit(int rule, int mark) {
        BranchForge x = new BranchForge();
        x.leaf(10);
        x.leaf(20);
        x.split(rule, 0, mark, 0, 1);
        x.tree(2);
        return x;
    }

    /** Splits 4 (feature 7) and 5 (feature 3) under split 6 (feature 0), leaves 0 .. 3 with the values 1, 2, 4, 8. */
    static BranchForge twoLevels() {
        BranchForge x = new BranchForge();
        for (int n = 0; n < 4; n++) {
            x.leaf(1 << n);
        }
        x.split(0, 7, 100, 0, 1);
        x.split(0, 3, 200, 2, 3);
        x.split(0, 0, 300, 4, 5);
        x.tree(6);
        return x;
    }

    /** A subtree as low as its count of leaves allows, values rising by one, no two marks alike; answers its root. */
    static int low(BranchForge x, int leaves, int firstValue) {
        if (leaves == 1) {
            return x.leaf(firstValue);
        }
        int half = (leaves + 1) / 2;
        int yes = low(x, half, firstValue);
        int no = low(x, leaves - half, firstValue + half);
        return x.split(0, 0, 1000 + yes, yes, no);
    }

    /** Splits from a first number on, each a child of the one before, then their leaves; the first is a root. */
    static void addChain(BranchForge x, int first, int splits, boolean yesDown) {
        for (int n = 0; n < splits; n++) {
            int down = first + n + 1;
            int side = first + splits + 1 + n;
            x.split(0, 0, n, yesDown ? down : side, yesDown ? side : down);
        }
        for (int n = 0; n <= splits; n++) {
            x.leaf(n);
        }
        x.tree(first);
    }

    static BranchForge chain(int splits, boolean yesDown) {
        BranchForge x = new BranchForge();
        addChain(x, 0, splits, yesDown);
        return x;
    }

    static long entryOf(int kind, int bits) {
        return kind * TWO_TO_32 + Integer.toUnsignedLong(bits);
    }

    /** The entry that the instruction at a place of a method names. */
    static long named(BranchForge x, int m, int p) {
        return x.entry(x.classOf(m), x.byteAt(m, p + 1));
    }

    static void dueBytes(BranchForge x, int m, int... bytes) {
        due("length(" + m + ")", x.length(m), bytes.length);
        for (int p = 0; p < bytes.length; p++) {
            due("byteAt(" + m + ", " + p + ")", x.byteAt(m, p), bytes[p]);
        }
    }

    static void dueTable(BranchForge x, int c, long... table) {
        due("entries(" + c + ")", x.entries(c), table.length);
        for (int k = 0; k < table.length; k++) {
            due("entry(" + c + ", " + k + ")", x.entry(c, k), table[k]);
        }
    }

    /** Where bits go at a split, both by the code and by the tree. */
    static void dueGoes(int rule, int bits, int mark, boolean yes) {
        BranchForge x = oneSplit(rule, mark);
        x.compile(20, 5);
        x.set(0, bits);
        String what = "rule " + rule + ", bits " + bits + ", mark " + mark;
        due(what + ": predict()", x.predict(), yes ? 10 : 20);
        due(what + ": reach(0)", x.reach(0), yes ? 0 : 1);
    }

    /** An object with nodes, a tree, code, features that are not 0 and a predict() behind it. */
    static BranchForge inUse() {
        BranchForge x = twoLevels();
        for (int f = 0; f < 8; f++) {
            x.set(f, f == 7 ? 150 : 50 + f);
        }
        x.compile(20, 5);
        x.predict();
        return x;
    }

    static void dueNoCode(BranchForge x) {
        due("methods()", x.methods(), 0);
        due("classes()", x.classes(), 0);
        due("length(0)", x.length(0), -1);
        due("byteAt(0, 0)", x.byteAt(0, 0), -1);
        due("classOf(0)", x.classOf(0), -1);
        due("entries(0)", x.entries(0), -1);
        due("entry(0, 0)", x.entry(0, 0), -1);
        due("reach(0)", x.reach(0), -1);
        due("predict()", x.predict(), 0);
        due("steps()", x.steps(), 0);
        due("calls()", x.calls(), 0);
    }
}
