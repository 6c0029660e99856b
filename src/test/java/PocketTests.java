/** Promises 8 to 11, 18 to 21, 28 and 29: ends, plans, piles. */
final class PocketTests {
    private static final Class<IllegalArgumentException> BAD = IllegalArgumentException.class;
    private static final Class<IllegalStateException> STATE = IllegalStateException.class;
    private static final Class<IndexOutOfBoundsException> INDEX = IndexOutOfBoundsException.class;

    private final Tests tests;

    PocketTests(Tests tests) {
        this.tests = tests;
    }

    void all() {
        end();
        endIsRefused();
        designWithTwo();
        designWithThree();
        designOfOneGroup();
        designOfNothingKnown();
        designOfMany();
        designOfLikeGroups();
        designIsRefused();
        designAgain();
        run();
        runEmptiesPockets();
        runIsRefused();
        runAll();
        endsThatAreToldLater();
        itemsThatAreKnownLater();
        ofEnd();
        ofPile();
        inPile();
        wouldBePlain();
        would();
        fewest();
    }

    /** An object with an ITEM that is READ for each of the banks. */
    private static Sortpocket known(int... banks) {
        Sortpocket x = new Sortpocket();
        for (int bank : banks) {
            x.item(bank, 1, 5, 0, 0);
        }
        x.readAll();
        return x;
    }

    private static Sortpocket withEnds(Sortpocket x, int... banks) {
        for (int bank : banks) {
            x.end(bank);
        }
        return x;
    }

    /** VOLUMES 3, 2, 1, 1, and 1 of OTHERS. */
    private static Sortpocket five() {
        return withEnds(known(1, 1, 1, 2, 2, 3, 4, 9), 1, 2, 3, 4);
    }

    private void codes(String what, Sortpocket x, String... due) {
        for (int end = 0; end < due.length; end++) {
            tests.same("code(" + end + ") " + what, x.code(end), due[end]);
            tests.same("its length " + what, x.ofEnd(end, 2), due[end].equals("-") ? -1 : due[end].length());
        }
    }

    private void end() {
        Sortpocket x = new Sortpocket();
        tests.same("first END", x.end(99), 0);
        tests.same("second END", x.end(0), 1);
        tests.same("BANK of the first", x.ofEnd(0, 0), 99);
        tests.same("BANK of the second", x.ofEnd(1, 0), 0);
        tests.same("BANK of OTHERS", x.ofEnd(2, 0), -1);
        tests.same("ENDS", x.house(9), 2);
        tests.same("the ninth", withEnds(x, 1, 2, 3, 4, 5, 6).end(7), 8);
    }

    private void endIsRefused() {
        Sortpocket x = withEnds(new Sortpocket(), 50, 0);
        tests.refuses(x, BAD, "end", -1);
        tests.refuses(x, BAD, "end", 100);
        tests.refuses(x, STATE, "end", 50);
        tests.refuses(x, STATE, "end", 0);
        withEnds(x, 1, 2, 3, 4, 5, 6, 7);
        tests.refuses(x, STATE, "end", 8);
        tests.refuses(x, STATE, "end", 7);
        tests.refuses(x, BAD, "end", 100);
    }

    private void designWithTwo() {
        Sortpocket x = five();
        tests.same("HANDLING with 2 POCKETS", x.design(2, 40), 18);
        codes("with 2 POCKETS", x, "11", "01", "100", "101", "00");
        tests.same("PILES", x.house(11), 9);
        tests.same("POCKETS", x.house(10), 2);
        tests.same("HANDLING", x.house(12), 18);
        int[] ends = {-1, -1, -1, 4, 1, -1, 0, 2, 3};
        int[] lengths = {0, 1, 1, 2, 2, 2, 2, 3, 3};
        for (int pile = 0; pile < ends.length; pile++) {
            tests.same("END of PILE " + pile, x.ofPile(pile, 4), ends[pile]);
            tests.same("length of PILE " + pile, x.ofPile(pile, 3), lengths[pile]);
        }
    }

    private void designWithThree() {
        Sortpocket x = five();
        tests.same("HANDLING with 3 POCKETS", x.design(3, 2), 11);
        codes("with 3 POCKETS", x, "1", "0", "20", "21", "22");
        Sortpocket even = withEnds(known(1, 1, 2, 3), 1, 2, 3);
        tests.same("at first 2 of 4 are put together", even.design(3, 2), 5);
        codes("with 4 groups", even, "2", "01", "1", "00");
        Sortpocket six = five();
        tests.same("HANDLING with 6 POCKETS", six.design(6, 2), 8);
        codes("with 6 POCKETS", six, "4", "3", "0", "1", "2");
        tests.same("PILES with 6 POCKETS", six.house(11), 6);
    }

    private void designOfOneGroup() {
        Sortpocket x = known(1, 2);
        tests.same("HANDLING of one GROUP", x.design(2, 2), 0);
        codes("of one GROUP", x, "");
        tests.same("PILES", x.house(11), 1);
        tests.same("END of the PILE", x.ofPile(0, 4), 0);
        tests.same("ITEMS in it", x.ofPile(0, 0), 2);
        tests.same("all are SORTED", x.house(15), 2);
        tests.refuses(x, STATE, "run", 0);
        tests.same("nothing may be run", x.runAll(), 0);
        tests.same("nothing is HANDLED", x.house(13), 0);
        x.end(1);
        codes("with an END told later", x, "-", "");
    }

    /** Of like ones that with the smallest END comes first: what was put together goes on and on. */
    private void designOfNothingKnown() {
        Sortpocket x = withEnds(new Sortpocket(), 1, 2, 3, 4, 5, 6, 7, 8, 9);
        tests.same("HANDLING of nothing", x.design(2, 2), 0);
        codes("of nothing", x, "000000000", "000000001", "00000001", "0000001", "000001", "00001", "0001", "001", "01", "1");
        tests.same("most PILES", x.house(11), 19);
        for (int pile = 0; pile < 19; pile++) {
            int due = pile == 17 ? 0 : pile % 2 == 1 || pile == 0 ? -1 : 10 - pile / 2;
            tests.same("END of PILE " + pile, x.ofPile(pile, 4), due);
            tests.same("length of PILE " + pile, x.ofPile(pile, 3), (pile + 1) / 2);
        }
        x.item(1, 1, 1, 0, 0);
        x.readAll();
        tests.same("runs to the deepest PILE", x.runAll(), 9);
        tests.same("where the ITEM is", x.ofItem(0, 11), 17);
        tests.same("HANDLED", x.house(13), 9);
        tests.same("HANDLING", x.house(12), 9);
    }

    private void designOfMany() {
        Sortpocket x = withEnds(new Sortpocket(), 1, 2, 3, 4, 5, 6, 7, 8, 9);
        x.design(6, 2);
        codes("of 10 with 6", x, "00", "01", "02", "03", "04", "1", "2", "3", "4", "5");
        x.design(5, 2);
        codes("of 10 with 5", x, "000", "001", "01", "02", "03", "04", "1", "2", "3", "4");
        x.design(4, 2);
        codes("of 10 with 4", x, "000", "001", "002", "003", "01", "02", "03", "1", "2", "3");
    }

    /** Of like VOLUMES the GROUP with the smallest END of all in it comes first. */
    private void designOfLikeGroups() {
        Sortpocket first = withEnds(known(1, 2, 2, 3, 9, 9, 9), 1, 2, 3);
        first.design(2, 2);
        codes("with the smallest END in the first part", first, "100", "11", "101", "0");
        Sortpocket second = withEnds(known(1, 1, 2, 2, 2, 3, 9, 9, 9, 9, 9, 9, 9), 1, 2, 3);
        second.design(2, 2);
        codes("with the smallest END in the second part", second, "001", "01", "000", "1");
        Sortpocket last = withEnds(known(1), 1, 2, 3, 4, 5, 6, 7, 8, 9);
        last.design(2, 2);
        tests.same("a VOLUME of 1 comes behind all of 0", last.code(0), "1");
        tests.same("OTHERS with 0 come ahead of it", last.code(9), "01");
    }

    private void designIsRefused() {
        Sortpocket x = five();
        int[][] wrong = {{1, 2}, {7, 2}, {2, 1}, {2, 41}, {Integer.MIN_VALUE, 2}, {2, Integer.MAX_VALUE}};
        for (int[] w : wrong) {
            tests.refuses(x, BAD, "design", w[0], w[1]);
        }
        x.design(2, 3);
        for (int[] w : wrong) {
            tests.refuses(x, BAD, "design", w[0], w[1]);
        }
        x.run(0);
        tests.same("a refused call leaves CAP", x.house(14), 2);
    }

    private void designAgain() {
        Sortpocket x = five();
        x.design(2, 2);
        x.runAll();
        tests.same("all are SORTED", x.house(15), 8);
        int handled = x.house(13);
        int emptied = x.house(14);
        tests.same("HANDLING of the new plan", x.design(6, 40), 8);
        tests.same("nothing is SORTED", x.house(15), 0);
        for (int nth = 0; nth < 8; nth++) {
            tests.same("by their numbers", x.inPile(0, nth), nth);
        }
        for (int pile = 1; pile < 6; pile++) {
            tests.same("the old PILES are gone", x.ofPile(pile, 0), 0);
        }
        x.design(6, 40);
        tests.same("each ITEM is there once", x.ofPile(0, 0), 8);
        tests.same("HANDLED goes on", x.house(13), handled);
        tests.same("EMPTIED goes on", x.house(14), emptied);
        tests.same("one run", x.runAll(), 1);
        tests.same("HANDLED more", x.house(13), handled + 8);
        tests.same("no POCKET gets full then", x.house(14), emptied);
        tests.same("all are SORTED again", x.house(15), 8);
    }

    private void run() {
        Sortpocket x = five();
        x.design(2, 40);
        tests.same("ITEMS run", x.run(0), 8);
        tests.same("the PILE is empty", x.ofPile(0, 0), 0);
        int[][] due = {{3, 4, 7, -1}, {0, 1, 2, 5, 6, -1}};
        for (int pile = 1; pile <= 2; pile++) {
            for (int nth = 0; nth < due[pile - 1].length; nth++) {
                tests.same("in PILE " + pile + " at " + nth, x.inPile(pile, nth), due[pile - 1][nth]);
            }
        }
        tests.same("HANDLED", x.house(13), 8);
        tests.same("not SORTED", x.house(15), 0);
        tests.same("ITEMS run of a POCKET", x.run(2), 5);
        tests.same("SORTED by that", x.house(15), 3);
        x.item(2, 1, 5, 0, 0);
        x.read(8);
        tests.same("one more", x.run(0), 1);
        tests.same("it comes behind what was there", x.inPile(1, 3), 8);
        tests.same("nothing in it", x.run(0), 0);
        tests.same("HANDLED in all", x.house(13), 14);
    }

    private void runEmptiesPockets() {
        Sortpocket x = withEnds(known(1, 1, 1, 1, 2), 1);
        x.design(2, 2);
        x.run(0);
        tests.same("4 by 2", x.house(14), 2);
        Sortpocket y = withEnds(known(1, 1, 1), 1);
        y.design(2, 2);
        y.run(0);
        tests.same("3 by 2", y.house(14), 1);
        y.item(1, 1, 1, 0, 0);
        y.readAll();
        y.run(0);
        tests.same("each run begins anew", y.house(14), 1);
        Sortpocket z = withEnds(known(new int[40]), 0);
        z.design(2, 40);
        z.run(0);
        tests.same("40 by 40", z.house(14), 1);
        z.design(2, 39);
        z.runAll();
        tests.same("40 by 39", z.house(14), 2);
    }

    private void runIsRefused() {
        Sortpocket x = five();
        tests.refuses(x, INDEX, "run", 0);
        x.design(6, 2);
        tests.refuses(x, INDEX, "run", -1);
        tests.refuses(x, INDEX, "run", 6);
        tests.refuses(x, INDEX, "run", Integer.MAX_VALUE);
        for (int pile = 1; pile < 6; pile++) {
            tests.refuses(x, STATE, "run", pile);
        }
    }

    private void runAll() {
        Sortpocket x = five();
        tests.refuses(x, STATE, "runAll");
        x.design(2, 2);
        tests.same("runs", x.runAll(), 4);
        tests.same("nothing is left", x.runAll(), 0);
        tests.same("all are SORTED", x.house(15), 8);
        tests.same("HANDLED", x.house(13), 18);
        tests.same("EMPTIED", x.house(14), 6);
        Sortpocket part = withEnds(known(1, 1), 1, 2, 3, 4);
        part.design(2, 2);
        tests.same("a PILE without ITEMS is not run", part.runAll(), 1);
    }

    private void endsThatAreToldLater() {
        Sortpocket x = five();
        x.design(2, 40);
        x.end(9);
        codes("with an END told later", x, "11", "01", "100", "101", "-", "00");
        tests.same("its VOLUME", x.ofEnd(4, 1), 1);
        tests.same("VOLUME of OTHERS", x.ofEnd(5, 1), 0);
        tests.same("its ITEM's END", x.ofItem(7, 10), 4);
        tests.same("HANDLING by the plan", x.house(12), 18);
        tests.same("OTHERS as they were numbered", x.ofPile(3, 4), 4);
        x.runAll();
        tests.same("it goes with OTHERS of the plan", x.ofItem(7, 11), 3);
        tests.same("and is SORTED there", x.ofItem(7, 12), 1);
        tests.same("PLAIN HANDLING by the ENDS now", x.would(5, true), 16);
        tests.same("HANDLING of a new plan", x.would(2, false), x.design(2, 40));
    }

    private void itemsThatAreKnownLater() {
        Sortpocket x = five();
        x.design(2, 40);
        x.item(4, 1, 1, 0, 0);
        x.item(4, 1, 1, 0, 4095);
        x.item(4, 1, 1, 0, 0);
        tests.same("a RAW one is in no PILE", x.ofPile(0, 0), 8);
        x.read(10);
        x.readAll();
        x.key(9);
        int[] due = {10, 8, 9};
        for (int nth = 0; nth < 3; nth++) {
            tests.same("as they became KNOWN", x.inPile(0, 8 + nth), due[nth]);
        }
        codes("as it was", x, "11", "01", "100", "101", "00");
        tests.same("HANDLING as VOLUME is now", x.house(12), 27);
        x.runAll();
        x.item(1, 1, 1, 0, 0);
        x.readAll();
        tests.same("the first PILE is there, also if it was empty", x.inPile(0, 0), 11);
        tests.same("SORTED ones", x.house(15), 11);
    }

    private void ofEnd() {
        Sortpocket x = five();
        int[] volumes = {3, 2, 1, 1, 1};
        for (int end = 0; end < volumes.length; end++) {
            tests.same("VOLUME of " + end, x.ofEnd(end, 1), volumes[end]);
            tests.same("no CODE without a plan", x.ofEnd(end, 2), -1);
            tests.same("no CODE without a plan", x.code(end), "-");
        }
        x.item(1, 1, 1, 0, 0);
        tests.same("one that is RAW has no VOLUME", x.ofEnd(0, 1), 3);
        Sortpocket bounds = withEnds(known(0, 98, 99, 99), 99, 98, 0);
        for (int end = 0; end < 4; end++) {
            tests.same("VOLUME of " + end + " of the BANKS at the bounds", bounds.ofEnd(end, 1), new int[] {2, 1, 1, 0}[end]);
        }
        Sortpocket many = withEnds(known(50, 51), 1, 2, 3, 4, 5, 6, 7, 8, 9);
        for (int again = 0; again < 2; again++) {
            tests.same("VOLUME of OTHERS behind 9 ENDS", many.ofEnd(9, 1), 2);
        }
        for (int end : new int[] {-1, 5, Integer.MIN_VALUE}) {
            tests.refuses(x, INDEX, "ofEnd", end, 0);
            tests.refuses(x, INDEX, "ofEnd", end, 3);
            tests.refuses(x, INDEX, "code", end);
        }
        tests.refuses(x, BAD, "ofEnd", 0, 3);
        tests.refuses(x, BAD, "ofEnd", 4, -1);
    }

    private void ofPile() {
        Sortpocket x = five();
        tests.refuses(x, INDEX, "ofPile", 0, 5);
        x.design(3, 2);
        int[] due = {8, 0, 7, 0, -1};
        for (int what = 0; what < 5; what++) {
            tests.same("ofPile(0, " + what + ")", x.ofPile(0, what), due[what]);
        }
        tests.same("first of none", x.ofPile(1, 1), -1);
        tests.same("last of none", x.ofPile(1, 2), -1);
        x.run(0);
        tests.same("first", x.ofPile(3, 1), 5);
        tests.same("last", x.ofPile(3, 2), 7);
        tests.refuses(x, INDEX, "ofPile", 7, 0);
        tests.refuses(x, INDEX, "ofPile", -1, 5);
        tests.refuses(x, BAD, "ofPile", 0, 5);
        tests.refuses(x, BAD, "ofPile", 6, -1);
    }

    private void inPile() {
        Sortpocket x = five();
        tests.refuses(x, INDEX, "inPile", 0, -1);
        x.design(3, 2);
        tests.same("the last", x.inPile(0, 7), 7);
        tests.same("behind it", x.inPile(0, 8), -1);
        tests.same("far behind it", x.inPile(0, Integer.MAX_VALUE), -1);
        x.run(0);
        tests.same("what was there is gone", x.inPile(0, 0), -1);
        tests.refuses(x, INDEX, "inPile", 7, 0);
        tests.refuses(x, INDEX, "inPile", -1, -1);
        tests.refuses(x, BAD, "inPile", 0, -1);
        tests.refuses(x, BAD, "inPile", 0, Integer.MIN_VALUE);
    }

    private void wouldBePlain() {
        Sortpocket x = known(1);
        int[][] due = {{0, 1, 2, 2, 3, 3, 3, 3, 4, 4}, {0, 1, 1, 2, 2, 2, 2, 2, 2, 3}, {0, 1, 1, 1, 2, 2, 2, 2, 2, 2},
            {0, 1, 1, 1, 1, 2, 2, 2, 2, 2}, {0, 1, 1, 1, 1, 1, 2, 2, 2, 2}};
        for (int n = 1; n <= 10; n++) {
            for (int pockets = 2; pockets <= 6; pockets++) {
                String what = "PLAIN HANDLING of " + n + " with " + pockets;
                tests.same(what, x.would(pockets, true), due[pockets - 2][n - 1]);
            }
            if (n < 10) {
                x.end(n);
            }
        }
        x.item(1, 1, 1, 1, 0);
        tests.same("only of what is KNOWN", x.would(2, true), 4);
        x.readAll();
        tests.same("of each that is KNOWN", x.would(2, true), 8);
    }

    private void would() {
        Sortpocket x = five();
        int[] due = {18, 11, 10, 8, 8};
        for (int pockets = 2; pockets <= 6; pockets++) {
            tests.same("HANDLING with " + pockets, x.would(pockets, false), due[pockets - 2]);
        }
        tests.same("nothing is DESIGNED by that", x.house(11), 0);
        x.design(3, 2);
        x.would(2, false);
        tests.same("a plan stays", x.code(4), "22");
        for (int pockets : new int[] {1, 7, -1, Integer.MAX_VALUE}) {
            tests.refuses(x, BAD, "would", pockets, false);
            tests.refuses(x, BAD, "would", pockets, true);
        }
    }

    private void fewest() {
        Sortpocket x = five();
        int[][] due = {{Integer.MAX_VALUE, 2}, {18, 2}, {17, 3}, {11, 3}, {10, 4}, {9, 5}, {8, 5}, {7, -1}, {0, -1}};
        for (int[] d : due) {
            tests.same("fewest(" + d[0] + ")", x.fewest(d[0]), d[1]);
        }
        tests.same("of nothing", new Sortpocket().fewest(0), 2);
        Sortpocket many = withEnds(known(1, 2, 3, 4, 5, 6), 1, 2, 3, 4, 5);
        tests.same("with 6", many.fewest(6), 6);
        tests.refuses(x, BAD, "fewest", -1);
        tests.refuses(x, BAD, "fewest", Integer.MIN_VALUE);
    }
}
