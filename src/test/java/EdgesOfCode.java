/** The boundary cases of code, cutting and tables, a test for each sentence that names one. */
public final class EdgesOfCode extends EdgeTest {
    public static void main(String[] args) {
        testCode();
        testCutting();
        testTables();
        finish();
    }

    // "Terms": code.

    private static void testCode() {
        stackAtTheBeginning();
        bytesOfFarTest();
        farTestPlaces();
        leafCode();
        nearOrFar();
        partCutOut();
        rootCode();
    }

    private static void stackAtTheBeginning() {
        // No code takes off more than it has put on, so all that can show is that no run leaves anything to the next.
        says("Terms, code", "the stack is empty at the beginning");
        BranchForge x = twoLevels();
        x.tree(x.leaf(-5));
        x.tree(x.split(1, 0, 7, x.leaf(100), x.leaf(200)));
        x.compile(20, 5);
        for (int i = 0; i < 3; i++) {
            due("all by yes", x.predict(), 1 - 5 + 100);
        }
        x.set(0, 300);
        for (int i = 0; i < 3; i++) {
            due("the first split of each tree by no", x.predict(), 4 - 5 + 200);
        }
        x.set(0, -1);
        due("missing", x.predict(), 4 - 5 + 100);
    }

    /**
     * A split on feature 7 whose yes part has 28 leaves and as many far TESTs as asked for (6 or 7), each at a split of
     * a row down the yes side; so that part has 9 * 28 - 6 bytes and one more for each of them.
     */
    private static BranchForge veryFar(int farTests) {
        BranchForge x = new BranchForge();
        int left = 20;
        int yes = low(x, 8, 1);
        for (int n = farTests; n > 0; n--) {
            int no = low(x, left / n, 100 * n);
            left -= left / n;
            yes = x.split(0, 0, 2000 + n, yes, no);
        }
        x.tree(x.split(4, 7, 1, yes, x.leaf(-5)));
        due("compile", x.compile(400, 60), 1);
        return x;
    }

    private static void bytesOfFarTest() {
        says("Terms, code", "A METHOD is a row of bytes 0 .. 255");
        BranchForge x = veryFar(7);
        int length = x.length(0);
        due("length", length, 4 + 256 + 3);
        for (int p = 0; p < length; p++) {
            int got = x.byteAt(0, p);
            due("byteAt(0, " + p + ") = " + got + " is a byte", got >= 0 && got <= 255, true);
        }
    }

    private static void farTestPlaces() {
        says("Terms, code", "20 + r, h, d: the same with 256 * h + d places.");
        for (int farTests = 6; farTests <= 7; farTests++) {
            BranchForge x = veryFar(farTests);
            int places = 249 + farTests;
            due("TEST", x.byteAt(0, 4), 24);
            due("h of " + places, x.byteAt(0, 5), farTests - 6);
            due("d of " + places, x.byteAt(0, 6), farTests == 6 ? 255 : 0);
            due("what is there", named(x, 0, 4 + places), entryOf(2, -5));
            due("yes", x.predict(), 1);
            x.set(7, ONE);
            due("no", x.predict(), -5);
            due("steps() of no", x.steps(), 5);
        }
    }

    private static void leafCode() {
        says("Terms, code", "The code of a leaf is CONSTANT (its value) and RETURN.");
        BranchForge x = new BranchForge();
        x.tree(x.leaf(MIN));
        x.compile(20, 5);
        dueBytes(x, 0, 2, 0, 3);
        dueTable(x, 0, entryOf(2, MIN));
    }

    private static void nearOrFar() {
        // A part of n leaves has 9 * n - 6 bytes while all TESTs in it are near, so no distance lies between 59 and 68.
        says("Terms, code",
            "the form of two bytes if the distance is at most 63 with that, and otherwise the form of three");
        for (int rule = 0; rule < 6; rule++) {
            BranchForge near = new BranchForge();
            near.tree(near.split(rule, 7, 1, low(near, 7, 1), near.leaf(0)));
            near.compile(400, 60);
            due("near TEST", near.byteAt(0, 4), 10 + rule);
            due("59 places", near.byteAt(0, 5), 59);
            due("length(0)", near.length(0), 4 + 59 + 3);
            BranchForge far = new BranchForge();
            far.tree(far.split(rule, 7, 1, low(far, 8, 1), far.leaf(0)));
            far.compile(400, 60);
            due("far TEST", far.byteAt(0, 4), 20 + rule);
            due("h", far.byteAt(0, 5), 0);
            due("69 places", far.byteAt(0, 6), 69);
            due("length(0)", far.length(0), 4 + 69 + 3);
        }
        BranchForge no = new BranchForge();
        no.tree(no.split(0, 0, 1, no.leaf(0), low(no, 8, 1)));
        no.compile(400, 60);
        due("only the yes part counts", no.byteAt(0, 4), 10);
        BranchForge cut = new BranchForge();
        cut.tree(cut.split(0, 0, 1, low(cut, 8, 1), cut.leaf(0)));
        due("two methods", cut.compile(75, 60), 2);
        due("near TEST over what is left of a yes part that was cut out", cut.byteAt(1, 4), 10);
        due("5 places", cut.byteAt(1, 5), 5);
    }

    private static void partCutOut() {
        says("Terms, code",
            "The part of a child is its code, or, if it was CUT OUT, CALL and RETURN, and its code is a method.");
        BranchForge x = twoLevels();
        due("no child cut out", x.compile(30, 60), 1);
        due("the code of the yes child", x.byteAt(0, 6), 1);
        due("the code of the no child", x.byteAt(0, 18), 1);
        due("yes cut out", x.compile(29, 60), 2);
        dueBytes(x, 1, 1, 0, 2, 3, 10, 5, 4, 4, 3, 1, 3, 2, 5, 10, 5, 2, 6, 3, 2, 7, 3);
        due("both cut out", x.compile(20, 60), 3);
        dueBytes(x, 2, 1, 0, 2, 6, 10, 5, 4, 7, 3, 4, 8, 3);
        due("entry of yes", x.entry(0, 7), entryOf(4, 0));
        due("entry of no", x.entry(0, 8), entryOf(4, 1));
        dueBytes(x, 0, 1, 7, 2, 0, 10, 5, 2, 1, 3, 2, 2, 3);
        dueBytes(x, 1, 1, 3, 2, 3, 10, 5, 2, 4, 3, 2, 5, 3);
    }

    private static void rootCode() {
        says("Terms, code", "The code of a root is a method.");
        BranchForge x = leaves(8);
        for (int t = 0; t < 8; t++) {
            x.tree(t);
            due("as many methods as roots", x.compile(400, 60), t + 1);
        }
    }

    // "Terms": cutting.

    private static void testCutting() {
        moreThanTheLimit();
        theLongerOne();
        yesIfBothAreAsLong();
        theOtherOneToo();
        cutYesThenNoThenTheSplit();
        numbersOfMethods();
        cutTreesInOrder();
    }

    private static void moreThanTheLimit() {
        says("Terms, cutting",
            "if its code would have more bytes than the limit, the child with the longer part is cut out");
        due("30 bytes in 30", twoLevels().compile(30, 60), 1);
        due("30 bytes in 29", twoLevels().compile(29, 60), 2);
        BranchForge three = new BranchForge();
        three.tree(low(three, 3, 1));
        due("21 bytes in 21", three.compile(21, 60), 1);
        due("21 bytes in 20, the smallest limit", three.compile(20, 60), 2);
        // The far form of TEST counts with its three bytes: 4 + 3 + 66 + 3.
        BranchForge far = new BranchForge();
        far.tree(far.split(0, 0, 1, low(far, 8, 1), far.leaf(0)));
        due("76 bytes in 76", far.compile(76, 60), 1);
        due("76 bytes in 75", far.compile(75, 60), 2);
        BranchForge full = new BranchForge();
        full.tree(low(full, 30, 1));
        int bytes = 9 * 30 - 6 + 3;
        due("59 nodes in 400, the largest limit", full.compile(400, 60), 1);
        due("length(0)", full.length(0), bytes);
        due("just as many bytes", full.compile(bytes, 60), 1);
        due("one byte less", full.compile(bytes - 1, 60), 2);
    }

    private static void theLongerOne() {
        says("Terms, cutting", "the child with the longer part is cut out");
        BranchForge no = new BranchForge();
        no.tree(no.split(1, 3, 9, low(no, 2, 1), low(no, 3, 11)));
        due("no is longer", no.compile(38, 60), 2);
        due("no was cut out", no.length(0), 21);
        due("yes stayed", no.byteAt(1, 6), 1);
        due("CALL of no", no.byteAt(1, 18), 4);
        BranchForge yes = new BranchForge();
        yes.tree(yes.split(1, 3, 9, low(yes, 3, 11), low(yes, 2, 1)));
        due("yes is longer", yes.compile(38, 60), 2);
        due("yes was cut out", yes.length(0), 21);
        due("CALL of yes", yes.byteAt(1, 6), 4);
        // One byte makes the difference: a far TEST in the yes child, 76 bytes against 75.
        BranchForge byOne = new BranchForge();
        int longer = byOne.split(0, 0, 1, low(byOne, 8, 1), byOne.leaf(0));
        byOne.tree(byOne.split(0, 0, 2, low(byOne, 9, 21), longer));
        due("no is longer by one byte", byOne.compile(100, 60), 2);
        due("no was cut out", byOne.length(0), 76);
        // What counts is the part as it is after the cuts inside it, not the whole subtree.
        BranchForge inside = new BranchForge();
        inside.tree(inside.split(0, 0, 1, low(inside, 4, 1), low(inside, 5, 11)));
        due("yes has 30 bytes, no 39, but only 21 after the cut in it", inside.compile(30, 60), 3);
        due("the cut in no", inside.length(0), 21);
        due("then yes", inside.length(1), 30);
        due("and not no", inside.length(2), 4 + 2 + 3 + 21);
    }

    private static void yesIfBothAreAsLong() {
        says("Terms, cutting", "(yes, if both are as long)");
        BranchForge x = twoLevels();
        due("compile", x.compile(29, 60), 2);
        due("yes was cut out", named(x, 0, 2), entryOf(1, 100));
        due("CALL of yes", x.byteAt(1, 6), 4);
        due("no stayed", x.byteAt(1, 9), 1);
        due("both", x.compile(20, 60), 3);
        due("yes first", named(x, 0, 2), entryOf(1, 100));
        due("then no", named(x, 1, 2), entryOf(1, 200));
    }

    private static void theOtherOneToo() {
        says("Terms, cutting", "if it still has more, the other one too");
        BranchForge x = twoLevels();
        due("21 bytes are left in 21", x.compile(21, 60), 2);
        due("length(1)", x.length(1), 21);
        due("21 bytes are left in 20", x.compile(20, 60), 3);
        due("length(2)", x.length(2), 12);
        // Without yes, TEST is near: 4 + 2 + 3 + 66 bytes are left.
        BranchForge near = new BranchForge();
        near.tree(near.split(0, 0, 1, low(near, 8, 1), low(near, 8, 21)));
        due("75 bytes are left in 75", near.compile(75, 60), 2);
        due("75 bytes are left in 74", near.compile(74, 60), 3);
        // Without no, TEST is still far: 4 + 3 + 66 + 3 bytes are left.
        BranchForge far = new BranchForge();
        far.tree(far.split(0, 0, 1, low(far, 8, 1), low(far, 9, 21)));
        due("76 bytes are left in 76", far.compile(76, 60), 2);
        due("76 bytes are left in 75", far.compile(75, 60), 3);
        due("no first", far.length(0), 75);
        due("then yes", far.length(1), 66);
        due("no is the method 0", named(far, 2, 9), entryOf(4, 0));
        due("yes is the method 1", named(far, 2, 6), entryOf(4, 1));
    }

    private static void cutYesThenNoThenTheSplit() {
        says("Terms, cutting",
            "in a tree, first all of the yes child of a split, then all of its no child, then the split itself");
        BranchForge x = new BranchForge();
        int no = x.split(0, 0, 3, x.split(0, 0, 4, x.leaf(1), x.leaf(2)), x.leaf(3));
        int yes = x.split(0, 0, 1, x.leaf(4), x.split(0, 0, 2, x.leaf(5), x.leaf(6)));
        x.tree(x.split(0, 0, 5, yes, no));
        due("compile", x.compile(20, 60), 5);
        int[] marks = {2, 4, 1, 3, 5};
        for (int m = 0; m < 5; m++) {
            due("mark of method " + m, named(x, m, 2), entryOf(1, marks[m]));
        }
    }

    private static void numbersOfMethods() {
        says("Terms, cutting",
            "Methods have numbers 0, 1, .. in the order in which they are cut out, the root's method after "
            + "all that was cut out in its tree.");
        BranchForge x = new BranchForge();
        int first = low(x, 3, 1);
        int second = low(x, 3, 11);
        x.tree(first);
        x.tree(second);
        due("compile", x.compile(20, 60), 4);
        due("CALL in the first root's method", named(x, 1, 6), entryOf(4, 0));
        due("CALL in the second root's method", named(x, 3, 6), entryOf(4, 2));
        due("predict()", x.predict(), 1 + 11);
        // The most methods that a chain can have: every split but the last has one of its children cut out.
        BranchForge row = chain(12, true);
        due("a chain", row.compile(20, 60), 12);
        due("the lowest split first", named(row, 0, 2), entryOf(1, 11));
        due("the root last", named(row, 11, 2), entryOf(1, 0));
    }

    private static void cutTreesInOrder() {
        says("Terms, cutting", "trees in their order");
        BranchForge x = new BranchForge();
        int low = x.leaf(5);
        int high = x.leaf(6);
        x.tree(high);
        x.tree(low);
        due("compile", x.compile(20, 60), 2);
        due("the first tree has the later node", named(x, 0, 0), entryOf(2, 6));
        due("the second", named(x, 1, 0), entryOf(2, 5));
    }

    // "Terms": tables.

    private static void testTables() {
        noTwoAlike();
        kindsOfEntries();
        classOfTheFirst();
        moreEntriesThanAllowed();
        fullTable();
        onlyTheMethodBefore();
        orderOfEntries();
    }

    private static void noTwoAlike() {
        says("Terms, tables", "a table of ENTRIES, no two alike: an entry has a kind and bits");
        BranchForge same = new BranchForge();
        same.tree(same.split(0, 0, 7, same.leaf(7), same.split(3, 1, 7, same.leaf(7), same.leaf(7))));
        same.compile(400, 60);
        dueTable(same, 0, entryOf(1, 7), entryOf(2, 7));
        dueBytes(same, 0, 1, 0, 2, 0, 10, 5, 2, 1, 3, 1, 1, 2, 0, 13, 5, 2, 1, 3, 2, 1, 3);
        BranchForge kinds = new BranchForge();
        int inner = kinds.split(5, 0, 0, kinds.leaf(0), kinds.leaf(9));
        kinds.tree(kinds.split(0, 0, 0, inner, kinds.leaf(8)));
        due("compile", kinds.compile(20, 60), 2);
        dueTable(kinds, 0, entryOf(3, 0), entryOf(2, 0), entryOf(2, 9), entryOf(1, 0), entryOf(4, 0), entryOf(2, 8));
        // The two zeros have the same order, but not the same bits.
        BranchForge zeros = new BranchForge();
        zeros.tree(zeros.split(0, 0, 0, zeros.leaf(1), zeros.split(0, 0, MIN, zeros.leaf(0), zeros.leaf(MIN))));
        zeros.compile(400, 60);
        dueTable(zeros, 0, entryOf(1, 0), entryOf(2, 1), entryOf(1, MIN), entryOf(2, 0), entryOf(2, MIN));
    }

    private static void kindsOfEntries() {
        says("Terms, tables",
            "kind 1 a mark of rules 0 to 3, 2 a leaf's value, 3 a mark of rules 4 and 5, 4 the number of a method");
        for (int rule = 0; rule < 6; rule++) {
            BranchForge x = new BranchForge();
            int inner = x.split(rule, 0, 5, x.leaf(6), x.leaf(7));
            x.tree(x.split(rule, 0, 8, inner, x.leaf(9)));
            x.compile(20, 60);
            int kind = rule < 4 ? 1 : 3;
            dueTable(x, 0, entryOf(kind, 5), entryOf(2, 6), entryOf(2, 7), entryOf(kind, 8), entryOf(4, 0),
                entryOf(2, 9));
        }
    }

    private static void classOfTheFirst() {
        says("Terms, tables",
            "a method belongs to the class of the method before it, or to a new class, when it is the first");
        BranchForge x = leaves(8);
        for (int t = 0; t < 8; t++) {
            x.tree(t);
        }
        x.compile(20, 60);
        due("classes()", x.classes(), 1);
        for (int m = 0; m < 8; m++) {
            due("classOf(" + m + ")", x.classOf(m), 0);
        }
        x.compile(20, 60);
        due("the first after another compile", x.classOf(0), 0);
    }

    private static void moreEntriesThanAllowed() {
        says("Terms, tables",
            "or when that class's table would have more entries than allowed with those that the method needs");
        BranchForge x = leaves(7);
        for (int t = 0; t < 7; t++) {
            x.tree(t);
        }
        x.compile(20, 5);
        due("5 entries in 5", x.classOf(4), 0);
        due("6 entries in 5", x.classOf(5), 1);
        due("the next", x.classOf(6), 1);
        due("entries(0)", x.entries(0), 5);
        due("entries(1)", x.entries(1), 2);
        x.compile(20, 6);
        due("6 entries in 6", x.classOf(5), 0);
        due("7 entries in 6", x.classOf(6), 1);
        x.compile(20, 7);
        due("7 entries in 7", x.classes(), 1);
        // A method that needs only what is there belongs to a full table too.
        BranchForge shared = leaves(5);
        int again = shared.leaf(4);
        for (int t = 0; t < 6; t++) {
            shared.tree(t);
        }
        shared.compile(20, 5);
        due("shared entry", shared.classOf(again), 0);
        due("classes()", shared.classes(), 1);
        // Of three entries one fits and two don't: none of them is put into the table before.
        BranchForge partly = leaves(4);
        for (int t = 0; t < 4; t++) {
            partly.tree(t);
        }
        partly.tree(partly.split(0, 0, 1, partly.leaf(10), partly.leaf(3)));
        partly.compile(20, 5);
        due("a class of its own", partly.classOf(4), 1);
        dueTable(partly, 0, entryOf(2, 0), entryOf(2, 1), entryOf(2, 2), entryOf(2, 3));
        dueTable(partly, 1, entryOf(1, 1), entryOf(2, 10), entryOf(2, 3));
        dueBytes(partly, 4, 1, 0, 2, 0, 10, 5, 2, 1, 3, 2, 2, 3);
    }

    private static void fullTable() {
        says("Terms, tables", "would have more entries than allowed");
        BranchForge x = new BranchForge();
        x.tree(low(x, 30, 1));
        due("the last node", x.leaf(99), 59);
        x.tree(59);
        due("two methods", x.compile(400, 60), 2);
        due("60 entries in 60", x.classes(), 1);
        due("entries(0)", x.entries(0), 60);
        due("the last entry", x.entry(0, 59), entryOf(2, 99));
        due("its number is a byte", x.byteAt(1, 1), 59);
        due("with a CALL", x.compile(200, 60), 3);
        due("the CALL is the entry 60", x.entries(0), 60);
        due("61 entries in 60", x.classOf(2), 1);
        due("entries(1)", x.entries(1), 1);
    }

    private static void onlyTheMethodBefore() {
        says("Terms, tables", "a method belongs to the class of the method before it");
        BranchForge x = leaves(5);
        x.leaf(100);
        x.leaf(0);
        for (int t = 0; t < 7; t++) {
            x.tree(t);
        }
        x.compile(20, 5);
        due("a new class", x.classOf(5), 1);
        due("no way back to a table that has the entry", x.classOf(6), 1);
        dueTable(x, 1, entryOf(2, 100), entryOf(2, 0));
    }

    private static void orderOfEntries() {
        says("Terms, tables",
            "aren't there yet come to the end of the table in the order in which its instructions need them");
        BranchForge x = twoLevels();
        x.compile(400, 60);
        dueTable(x, 0, entryOf(1, 300), entryOf(1, 100), entryOf(2, 1), entryOf(2, 2), entryOf(1, 200), entryOf(2, 4),
            entryOf(2, 8));
        BranchForge y = leaves(2);
        y.tree(1);
        y.tree(y.split(0, 0, 5, y.leaf(7), y.leaf(1)));
        y.compile(20, 60);
        dueTable(y, 0, entryOf(2, 1), entryOf(1, 5), entryOf(2, 7));
        dueBytes(y, 1, 1, 0, 2, 1, 10, 5, 2, 2, 3, 2, 0, 3);
    }
}
