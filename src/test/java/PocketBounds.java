import java.util.Arrays;

/** Part 4 of the document, a test for each sentence that names a bound of ENDS, plans or PILES. */
final class PocketBounds {
    private static final Class<IllegalStateException> STATE = IllegalStateException.class;
    private static final Class<IndexOutOfBoundsException> INDEX = IndexOutOfBoundsException.class;
    private static final int ALL = 4095;

    private final Tests tests;

    PocketBounds(Tests tests) {
        this.tests = tests;
    }

    void all() {
        endsAreAtMostNine();
        noBankTwice();
        anyBankMayBeAnEnd();
        volumeIsOfWhatIsKnown();
        withoutAPlan();
        fromOneGroupToTen();
        onePutTogetherIsFewer();
        likeVolumes();
        volumeOfAGroupIsThatOfAllInIt();
        aWholeComesBehindWhatIsLess();
        aPlanStaysAsItIs();
        endsToldLaterGoWithOthers();
        anEndForAllThatIsKnown();
        handlingAtItsBounds();
        plainAtThePowers();
        knownLater();
        thePileThatWasRunIsEmpty();
        behindWhatWasAhead();
        sortedInThePileOfItsEnd();
        handledOnceMore();
        emptiedEachTime();
        emptiedInARun();
        emptiedByPocket();
        capOfThePlan();
        oneGroupIsSorted();
        pilesByLengthThenCode();
        theMostPiles();
        runAllTakesTheSmallest();
        fewestAtItsBounds();
        wouldChangesNothing();
    }

    /** An object with an ITEM that is READ for each of the banks. */
    private static Sortpocket known(int... banks) {
        Sortpocket x = new Sortpocket();
        know(x, banks);
        return x;
    }

    private static void know(Sortpocket x, int... banks) {
        for (int bank : banks) {
            x.item(bank, 1, 5, 0, 0);
        }
        x.readAll();
    }

    private static Sortpocket withEnds(Sortpocket x, int... banks) {
        for (int bank : banks) {
            x.end(bank);
        }
        return x;
    }

    /** An object with the ENDS 0 to count - 1, each by the BANK of its number. */
    private static Sortpocket ends(int count) {
        Sortpocket x = new Sortpocket();
        for (int bank = 0; bank < count; bank++) {
            x.end(bank);
        }
        return x;
    }

    private void codes(String what, Sortpocket x, String... due) {
        for (int end = 0; end < due.length; end++) {
            tests.same("code(" + end + ") " + what, x.code(end), due[end]);
            tests.same("its length " + what, x.ofEnd(end, 2), due[end].equals("-") ? -1 : due[end].length());
        }
    }

    private void inPile(String what, Sortpocket x, int pile, int... due) {
        tests.same("how many, " + what, x.ofPile(pile, 0), due.length);
        tests.same("the first, " + what, x.ofPile(pile, 1), due.length == 0 ? -1 : due[0]);
        tests.same("the last, " + what, x.ofPile(pile, 2), due.length == 0 ? -1 : due[due.length - 1]);
        for (int nth = 0; nth < due.length; nth++) {
            tests.same("at " + nth + ", " + what, x.inPile(pile, nth), due[nth]);
            tests.same("its PILE, " + what, x.ofItem(due[nth], 11), pile);
        }
        tests.same("behind the last, " + what, x.inPile(pile, due.length), -1);
    }

    // ---- ends

    /** "ENDS: at most 9, numbered from 0"; "The number behind the last one is OTHERS ... (there is always that one)". */
    private void endsAreAtMostNine() {
        Sortpocket x = new Sortpocket();
        for (int end = 0; end <= 9; end++) {
            tests.same("BANK of OTHERS", x.ofEnd(end, 0), -1);
            tests.same("VOLUME of OTHERS", x.ofEnd(end, 1), 0);
            tests.same("CODE of OTHERS", x.code(end), "-");
            tests.refuses(x, INDEX, "ofEnd", end + 1, 0);
            tests.refuses(x, INDEX, "code", end + 1);
            tests.same("ENDS", x.house(9), end);
            if (end < 9) {
                tests.same("number of the END", x.end(10 * end), end);
                tests.same("its BANK", x.ofEnd(end, 0), 10 * end);
            }
        }
        tests.refuses(x, STATE, "end", 99);
        for (int end = 0; end < 9; end++) {
            tests.same("BANK of the END", x.ofEnd(end, 0), 10 * end);
        }
    }

    /** "(no BANK twice)": the first, one between, and the last that was told. */
    private void noBankTwice() {
        Sortpocket x = withEnds(new Sortpocket(), 0, 50, 99);
        for (int bank : new int[] {0, 50, 99}) {
            tests.refuses(x, STATE, "end", bank);
        }
        tests.same("another one may be told", x.end(98), 3);
        tests.refuses(x, STATE, "end", 98);
    }

    private void anyBankMayBeAnEnd() {
        for (int bank = 0; bank <= 99; bank++) {
            Sortpocket x = known(bank, (bank + 1) % 100, (bank + 99) % 100);
            tests.same("END of the BANK " + bank, x.end(bank), 0);
            tests.same("VOLUME", x.ofEnd(0, 1), 1);
            tests.same("VOLUME of OTHERS", x.ofEnd(1, 1), 2);
            for (int item = 0; item < 3; item++) {
                tests.same("END of an ITEM", x.ofItem(item, 10), item == 0 ? 0 : 1);
            }
        }
    }

    /** "how many ITEMS are KNOWN with that BANK": by the BANK as it is KNOWN, none that is RAW or REJECTED. */
    private void volumeIsOfWhatIsKnown() {
        Sortpocket x = withEnds(new Sortpocket(), 12, 22);
        for (int item = 0; item < 5; item++) {
            x.item(12, 3456, 789, 0, item == 3 ? ALL : 0);
        }
        tests.same("of what is RAW", x.ofEnd(0, 1), 0);
        for (int item = 0; item < 4; item++) {
            x.read(item);
        }
        tests.same("of what is READ", x.ofEnd(0, 1), 3);
        x.key(3);
        tests.same("of what is KEYED, too", x.ofEnd(0, 1), 4);
        Sortpocket y = withEnds(new Sortpocket(), 12, 22);
        for (int item = 0; item < 5; item++) {
            y.item(12, 3456, 789, 0, 0);
        }
        for (int item = 0; item < 4; item++) {
            y.read(item);
        }
        // 48 were drawn: the next one and the eighth then are 97, at PLACES that count 3 and 7 times.
        y.machine(0, 3);
        y.design(2, 40);
        y.read(4);
        tests.same("KNOWN with the BANK 22", y.ofItem(4, 6), 22);
        tests.same("VOLUME of the BANK 12", y.ofEnd(0, 1), 4);
        tests.same("VOLUME of the BANK 22", y.ofEnd(1, 1), 1);
        tests.same("its END", y.ofItem(4, 10), 1);
        y.runAll();
        tests.same("it goes with the BANK as it is KNOWN", y.ofPile(y.ofItem(4, 11), 4), 1);
        tests.same("SORTED", y.house(15), 5);
    }

    // ---- plans

    /** What is asked without a plan: NONE, "-", 0. */
    private void withoutAPlan() {
        Sortpocket x = withEnds(known(1, 2), 1);
        codes("without a plan", x, "-", "-");
        for (int what = 10; what <= 15; what++) {
            tests.same("house(" + what + ") without a plan", x.house(what), 0);
        }
        tests.same("PILE of an ITEM", x.ofItem(0, 11), -1);
        tests.same("SORTED", x.ofItem(0, 12), 0);
        tests.refuses(x, INDEX, "ofPile", 0, 0);
        tests.refuses(x, INDEX, "inPile", 0, 0);
        tests.refuses(x, INDEX, "run", 0);
        tests.refuses(x, STATE, "runAll");
        tests.same("sound", x.isSound(), true);
    }

    /**
     * "at first (n - 2) modulo (P - 1), and 2 more; from then on P of them", for each n and P, with nothing
     * KNOWN: then what was put together has the END 0 in it, and is the first one each time.
     */
    private void fromOneGroupToTen() {
        for (int n = 1; n <= 10; n++) {
            for (int pockets = 2; pockets <= 6; pockets++) {
                Sortpocket x = ends(n - 1);
                String what = "of " + n + " with " + pockets;
                tests.same("HANDLING " + what, x.design(pockets, 40), 0);
                int rounds = (n - 1 + pockets - 2) / (pockets - 1);
                int first = n - (rounds - 1) * (pockets - 1);
                String[] due = new String[n];
                for (int end = 0; end < n; end++) {
                    int round = end < first ? 1 : 2 + (end - first) / (pockets - 1);
                    int pocket = end < first ? end : 1 + (end - first) % (pockets - 1);
                    due[end] = n == 1 ? "" : "0".repeat(rounds - round) + pocket;
                }
                codes(what, x, due);
                tests.same("PILES " + what, x.house(11), n + rounds);
                tests.same("POCKETS " + what, x.house(10), pockets);
                tests.refuses(x, INDEX, "ofPile", n + rounds, 0);
                tests.same("the last PILE " + what, x.ofPile(n + rounds - 1, 0), 0);
            }
        }
    }

    /** "2 more": two GROUPS are put together to one by any number of POCKETS. */
    private void onePutTogetherIsFewer() {
        for (int pockets = 2; pockets <= 6; pockets++) {
            Sortpocket more = withEnds(known(7, 7, 8), 7);
            tests.same("HANDLING of two", more.design(pockets, 2), 3);
            codes("of two, of which OTHERS have less", more, "1", "0");
            Sortpocket less = withEnds(known(7, 8, 8), 7);
            less.design(pockets, 2);
            codes("of two, of which OTHERS have more", less, "0", "1");
            Sortpocket like = withEnds(known(7, 8), 7);
            like.design(pockets, 2);
            codes("of two with like VOLUMES", like, "0", "1");
            tests.same("PILES", like.house(11), 3);
        }
    }

    /** "of like ones those in which the smallest END is smaller": OTHERS have the greatest number. */
    private void likeVolumes() {
        Sortpocket x = withEnds(known(1, 2, 3, 4, 5, 6), 1, 2, 3, 4, 5);
        x.design(6, 2);
        codes("of six with like VOLUMES", x, "0", "1", "2", "3", "4", "5");
        x.design(5, 2);
        codes("of six with 5", x, "40", "41", "0", "1", "2", "3");
        Sortpocket y = withEnds(known(1, 2, 3, 3), 1, 2, 3);
        y.design(2, 2);
        // OTHERS of 0 and the END 0 of 1 make 1 with the smallest END 0: that is ahead of the END 1 of 1,
        // and both make 2, ahead of the END 2 of 2.
        codes("of a GROUP and an END with like VOLUMES", y, "001", "01", "1", "000");
    }

    /** "VOLUME of a GROUP is that of all in it, together". */
    private void volumeOfAGroupIsThatOfAllInIt() {
        Sortpocket x = withEnds(known(1, 1, 2, 2, 3, 3, 3, 9, 9, 9), 1, 2, 3);
        tests.same("HANDLING", x.design(2, 2), 20);
        codes("two of 2 make 4, more than 3", x, "00", "01", "10", "11");
        Sortpocket y = withEnds(known(1, 2, 3, 3, 3, 9, 9, 9), 1, 2, 3);
        tests.same("HANDLING", y.design(2, 2), 3 + 3 + 2 * 3 + 3);
        codes("two of 1 make 2, less than 3", y, "100", "101", "11", "0");
    }

    /** A VOLUME of 40, the most that there may be, is more than 0 of a GROUP with a smaller END. */
    private void aWholeComesBehindWhatIsLess() {
        int[] all = new int[40];
        Arrays.fill(all, 0);
        Sortpocket x = withEnds(known(all), 0, 1);
        tests.same("HANDLING of 40", x.design(2, 40), 40);
        codes("of 40, 0 and 0", x, "1", "00", "01");
        tests.same("VOLUME", x.ofEnd(0, 1), 40);
        Sortpocket y = withEnds(known(all), 1, 2);
        tests.same("HANDLING of 40 OTHERS", y.design(2, 40), 40);
        codes("of 0, 0 and 40", y, "00", "01", "1");
    }

    /** "A plan stays as it is, whatever is KNOWN later". */
    private void aPlanStaysAsItIs() {
        Sortpocket x = withEnds(known(1, 2, 2), 1, 2);
        tests.same("HANDLING", x.design(2, 2), 2 + 2);
        codes("as it was DESIGNED", x, "01", "1", "00");
        know(x, 1, 1, 1, 1, 9, 9);
        codes("with more that is KNOWN", x, "01", "1", "00");
        tests.same("HANDLING by VOLUME as it is now", x.house(12), 5 * 2 + 2 + 2 * 2);
        tests.same("HANDLING of a plan that would be DESIGNED now", x.would(2, false), 5 + 2 * 2 + 2 * 2);
        tests.same("its HANDLING", x.design(2, 2), 13);
        codes("DESIGNED anew", x, "1", "00", "01");
        tests.same("nothing is HANDLED by that", x.house(13), 0);
    }

    /** "ENDS that are told later go with OTHERS of the plan"; "OTHERS for all other BANKS". */
    private void endsToldLaterGoWithOthers() {
        Sortpocket x = withEnds(known(1, 2, 3, 4), 1, 2);
        tests.same("HANDLING", x.design(2, 40), 2 + 2 + 2);
        codes("as it was DESIGNED", x, "00", "01", "1");
        for (int bank = 3; bank <= 9; bank++) {
            int end = x.end(bank);
            tests.same("CODE of one told later", x.code(end), "-");
            tests.same("its length", x.ofEnd(end, 2), -1);
            tests.same("CODE of OTHERS, behind it", x.code(end + 1), "1");
            tests.same("HANDLING", x.house(12), 6);
            tests.same("OTHERS as they were numbered", x.ofPile(2, 4), 2);
            tests.same("PILES", x.house(11), 5);
        }
        tests.same("END of an ITEM by now", x.ofItem(3, 10), 3);
        x.runAll();
        inPile("of OTHERS", x, 2, 2, 3);
        tests.same("SORTED", x.house(15), 4);
        tests.same("VOLUME of OTHERS by now", x.ofEnd(9, 1), 0);
        x.design(2, 40);
        tests.same("then each has a CODE", x.ofEnd(8, 2) > 0, true);
        tests.same("PILES then", x.house(11), 19);
    }

    /** OTHERS with nothing, ENDS with nothing: they have CODES all the same. */
    private void anEndForAllThatIsKnown() {
        Sortpocket x = withEnds(known(1, 1, 2), 1, 2);
        x.design(3, 40);
        codes("with nothing of OTHERS", x, "2", "1", "0");
        tests.same("one run", x.runAll(), 1);
        inPile("OTHERS", x, 1);
        inPile("END 1", x, 2, 2);
        inPile("END 0", x, 3, 0, 1);
    }

    /** "HANDLING of a plan is the sum of VOLUME ... * length of the CODE": 0 of nothing KNOWN, and of one GROUP. */
    private void handlingAtItsBounds() {
        Sortpocket x = ends(9);
        x.item(20, 1, 1, 0, ALL);
        x.item(20, 1, 1, 0, 0);
        tests.same("of nothing KNOWN", x.design(2, 2), 0);
        x.read(0);
        tests.same("of what is REJECTED", x.house(12), 0);
        x.key(0);
        tests.same("of one that is KEYED, with the length 1", x.house(12), 1);
        x.read(1);
        tests.same("of one that is READ, too", x.house(12), 2);
        Sortpocket one = known(1, 2, 3);
        for (int pockets = 2; pockets <= 6; pockets++) {
            tests.same("of one GROUP", one.design(pockets, 2), 0);
            tests.same("POCKETS of one GROUP", one.house(10), pockets);
            tests.same("PILES of one GROUP", one.house(11), 1);
        }
        // All 40 in the END that has the longest CODE, as nothing was KNOWN then.
        Sortpocket most = ends(9);
        most.design(2, 40);
        know(most, new int[40]);
        tests.same("the most HANDLING", most.house(12), 360);
        tests.same("runs", most.runAll(), 9);
        tests.same("HANDLED", most.house(13), 360);
        tests.same("EMPTIED", most.house(14), 9);
        tests.same("PLAIN HANDLING", most.would(2, true), 160);
        tests.same("sound", most.isSound(), true);
    }

    /** "the smallest number m for which P^m is n or more": at each power, and one beyond it. */
    private void plainAtThePowers() {
        int[][] due = {{2, 1, 0}, {2, 2, 1}, {2, 3, 2}, {2, 4, 2}, {2, 5, 3}, {2, 8, 3}, {2, 9, 4}, {2, 10, 4},
            {3, 1, 0}, {3, 2, 1}, {3, 3, 1}, {3, 4, 2}, {3, 9, 2}, {3, 10, 3}, {4, 1, 0}, {4, 4, 1}, {4, 5, 2},
            {4, 10, 2}, {5, 1, 0}, {5, 5, 1}, {5, 6, 2}, {5, 10, 2}, {6, 1, 0}, {6, 6, 1}, {6, 7, 2}, {6, 10, 2}};
        for (int[] d : due) {
            Sortpocket x = ends(d[1] - 1);
            String what = "P " + d[0] + " and n " + d[1];
            tests.same("of nothing KNOWN, " + what, x.would(d[0], true), 0);
            know(x, 50);
            tests.same("of one, " + what, x.would(d[0], true), d[2]);
            x.item(50, 1, 1, 0, 0);
            x.item(50, 1, 1, 0, ALL);
            x.read(2);
            tests.same("RAW and REJECTED ones are not KNOWN, " + what, x.would(d[0], true), d[2]);
            x.key(2);
            tests.same("KEYED ones are, " + what, x.would(d[0], true), 2 * d[2]);
            know(x, new int[37]);
            tests.same("of 40, " + what, x.would(d[0], true), 40 * d[2]);
        }
    }

    // ---- piles

    /** "all ITEMS that are KNOWN are in one PILE, by their numbers"; one KNOWN later "comes to the end of the first PILE". */
    private void knownLater() {
        Sortpocket x = withEnds(new Sortpocket(), 1);
        int[] smudged = {0, ALL, 0, ALL, 0};
        for (int places : smudged) {
            x.item(1, 1, 1, 0, places);
        }
        x.read(4);
        x.read(1);
        x.read(2);
        x.design(2, 2);
        inPile("neither RAW nor REJECTED ones", x, 0, 2, 4);
        tests.same("PILE of one that is RAW", x.ofItem(0, 11), -1);
        tests.same("PILE of one that is REJECTED", x.ofItem(1, 11), -1);
        x.read(3);
        inPile("with one REJECTED later", x, 0, 2, 4);
        x.key(3);
        inPile("with one KEYED later", x, 0, 2, 4, 3);
        x.read(0);
        inPile("with one READ later", x, 0, 2, 4, 3, 0);
        x.runAll();
        inPile("all are run", x, 0);
        x.key(1);
        inPile("to the first PILE, also if it is empty", x, 0, 1);
        tests.same("it is not SORTED", x.ofItem(1, 12), 0);
        tests.same("SORTED ones", x.house(15), 4);
        x.design(2, 2);
        inPile("by their numbers", x, 0, 0, 1, 2, 3, 4);
        tests.same("nothing is SORTED", x.house(15), 0);
    }

    /** "the PILE that was run is empty"; an empty one may be run, too. */
    private void thePileThatWasRunIsEmpty() {
        Sortpocket x = withEnds(known(1, 2), 1);
        x.design(2, 2);
        tests.same("two", x.run(0), 2);
        inPile("run", x, 0);
        tests.same("none", x.run(0), 0);
        inPile("run once more", x, 0);
        inPile("POCKET 0", x, 1, 0);
        inPile("POCKET 1", x, 2, 1);
        tests.same("HANDLED", x.house(13), 2);
        Sortpocket y = withEnds(new Sortpocket(), 1, 2);
        y.design(2, 2);
        tests.same("nothing in the first PILE", y.run(0), 0);
        tests.same("nothing in a POCKET", y.run(1), 0);
        tests.same("nothing HANDLED", y.house(13), 0);
        tests.same("no runs", y.runAll(), 0);
        Sortpocket z = withEnds(known(new int[40]), 0);
        z.design(2, 40);
        tests.same("all 40", z.run(0), 40);
        tests.same("the last of 40", z.inPile(2, 39), 39);
        tests.same("behind it", z.inPile(2, 40), -1);
    }

    /** "each POCKET is a PILE then, with what was in that PILE ahead". */
    private void behindWhatWasAhead() {
        Sortpocket x = withEnds(known(1, 2, 1), 1);
        x.design(2, 40);
        // Of 2 and 1 the fewer, OTHERS, have the POCKET 0.
        x.run(0);
        inPile("OTHERS", x, 1, 1);
        inPile("END 0", x, 2, 0, 2);
        know(x, 1, 2, 1);
        x.run(0);
        inPile("OTHERS, with one more", x, 1, 1, 4);
        inPile("END 0, with two more", x, 2, 0, 2, 3, 5);
        Sortpocket y = withEnds(known(1, 2, 9), 1, 2);
        y.design(2, 40);
        codes("with OTHERS alone", y, "10", "11", "0");
        y.run(0);
        know(y, 2, 1);
        y.run(0);
        inPile("not yet SORTED", y, 2, 0, 1, 3, 4);
        tests.same("four at once", y.run(2), 4);
        inPile("END 0", y, 3, 0, 4);
        inPile("END 1", y, 4, 1, 3);
    }

    /** "An ITEM in a PILE with the CODE of its END is SORTED." */
    private void sortedInThePileOfItsEnd() {
        Sortpocket x = withEnds(known(1, 2, 9), 1, 2);
        x.design(2, 40);
        int[][] due = {{0, 0, 0}, {0, 0, 1}, {1, 1, 1}};
        int[] runs = {-1, 0, 2};
        for (int step = 0; step < 3; step++) {
            if (runs[step] >= 0) {
                x.run(runs[step]);
            }
            int sum = 0;
            for (int item = 0; item < 3; item++) {
                tests.same("SORTED " + item + " after " + step + " runs", x.ofItem(item, 12), due[step][item]);
                sum += due[step][item];
            }
            tests.same("SORTED ITEMS", x.house(15), sum);
        }
    }

    /** "Each ITEM that is run is HANDLED once more", by each plan. */
    private void handledOnceMore() {
        Sortpocket x = withEnds(known(1, 2, 9), 1, 2);
        x.design(2, 40);
        x.run(0);
        tests.same("3", x.house(13), 3);
        x.run(2);
        tests.same("and 2", x.house(13), 5);
        tests.same("as HANDLING tells", x.house(12), 5);
        x.design(3, 40);
        tests.same("as before", x.house(13), 5);
        x.runAll();
        tests.same("and 3", x.house(13), 8);
        tests.same("no PILE is run again", x.runAll() + x.house(13), 8);
    }

    /** "A POCKET holds CAP ITEMS in a run (2 to 40 ...): each time it has CAP of them, it is EMPTIED". */
    private void emptiedEachTime() {
        for (int cap = 2; cap <= 40; cap++) {
            for (int count = 0; count <= 40; count++) {
                Sortpocket x = withEnds(known(new int[count]), 0);
                x.design(2, cap);
                tests.same("ITEMS", x.run(0), count);
                tests.same("EMPTIED of " + count + " by " + cap, x.house(14), count / cap);
                tests.same("they stay in the PILE", x.ofPile(1, 0) + x.ofPile(2, 0), count);
            }
        }
    }

    /** "in a run": what was in the POCKET ahead does not count. */
    private void emptiedInARun() {
        Sortpocket x = withEnds(new Sortpocket(), 0);
        x.design(2, 3);
        int[] counts = {2, 2, 3, 1, 5, 6, 0, 2};
        int due = 0;
        for (int count : counts) {
            know(x, new int[count]);
            x.run(0);
            due += count / 3;
            tests.same("EMPTIED with " + count + " more", x.house(14), due);
        }
        tests.same("all are in the PILE", x.ofPile(1, 0), 21);
    }

    /** Each POCKET has CAP of its own. */
    private void emptiedByPocket() {
        Sortpocket x = withEnds(known(1, 2, 3, 1, 2, 3), 1, 2);
        x.design(3, 3);
        x.run(0);
        tests.same("2 in each of 3", x.house(14), 0);
        Sortpocket y = withEnds(known(1, 2, 3, 1, 2, 3, 1, 2), 1, 2);
        y.design(3, 3);
        y.run(0);
        tests.same("3, 3 and 2", y.house(14), 2);
        Sortpocket z = withEnds(known(1, 2, 9, 9, 9), 1, 2);
        z.design(2, 2);
        codes("of 1, 1 and 3", z, "00", "01", "1");
        z.run(0);
        tests.same("3 and 2 by 2", z.house(14), 2);
        z.run(1);
        tests.same("1 and 1 by 2", z.house(14), 2);
    }

    /** CAP is that of the plan that there is. */
    private void capOfThePlan() {
        Sortpocket x = withEnds(known(0, 0, 0, 0, 0, 0), 0);
        int[][] due = {{40, 0}, {6, 1}, {7, 1}, {5, 2}, {3, 4}, {2, 7}};
        for (int[] d : due) {
            x.design(2, d[0]);
            x.runAll();
            tests.same("EMPTIED ever, by CAP " + d[0], x.house(14), d[1]);
        }
        tests.same("HANDLED ever", x.house(13), 36);
    }

    /** "With a plan of one GROUP all in the first PILE are SORTED." */
    private void oneGroupIsSorted() {
        Sortpocket x = known(1, 2);
        x.item(3, 1, 1, 0, ALL);
        x.item(3, 1, 1, 0, 0);
        x.design(6, 2);
        codes("of one GROUP", x, "");
        tests.same("SORTED", x.house(15), 2);
        tests.same("one that is RAW is not", x.ofItem(2, 12), 0);
        x.readAll();
        tests.same("one that is REJECTED is not", x.ofItem(2, 12), 0);
        tests.same("one that is READ later is", x.ofItem(3, 12), 1);
        x.key(2);
        tests.same("one that is KEYED later is", x.ofItem(2, 12), 1);
        inPile("all of them", x, 0, 0, 1, 3, 2);
        tests.same("END of the PILE", x.ofPile(0, 4), 0);
        tests.same("length of its CODE", x.ofPile(0, 3), 0);
        tests.refuses(x, STATE, "run", 0);
        tests.refuses(x, INDEX, "run", 1);
        tests.same("nothing may be run", x.runAll(), 0);
        x.end(1);
        x.end(2);
        tests.same("SORTED, with ENDS told later", x.house(15), 4);
        codes("of OTHERS alone", x, "-", "-", "");
        tests.same("OTHERS as they were numbered", x.ofPile(0, 4), 0);
        tests.same("HANDLING", x.house(12), 0);
        tests.same("sound", x.isSound(), true);
    }

    /** "0 is the first one; each POCKET ... has the next number, by the length of its CODE, then by its CODE". */
    private void pilesByLengthThenCode() {
        for (int n = 2; n <= 10; n++) {
            for (int pockets = 2; pockets <= 6; pockets++) {
                Sortpocket x = ends(n - 1);
                for (int item = 0; item < 40; item++) {
                    x.item(item * item % 11, 1, 1, 0, 0);
                }
                x.readAll();
                x.design(pockets, 40);
                int before = 0;
                String code = "";
                for (int pile = 0; pile < x.house(11); pile++) {
                    int end = x.ofPile(pile, 4);
                    tests.same("lengths rise", x.ofPile(pile, 3) - before >= 0, true);
                    tests.same("by one", x.ofPile(pile, 3) - before <= 1, true);
                    before = x.ofPile(pile, 3);
                    if (end >= 0) {
                        String next = x.code(end);
                        tests.same("length of " + next, next.length(), before);
                        boolean isBehind = next.length() > code.length() || next.compareTo(code) > 0;
                        tests.same(next + " is behind " + code, isBehind, true);
                        code = next;
                    }
                }
            }
        }
        Sortpocket x = withEnds(known(1, 1, 2, 2, 3, 3, 3, 9, 9, 9), 1, 2, 3);
        x.design(2, 2);
        int[] due = {-1, -1, -1, 0, 1, 2, 3};
        for (int pile = 0; pile < 7; pile++) {
            tests.same("END of the PILE " + pile, x.ofPile(pile, 4), due[pile]);
        }
        tests.same("PILES", x.house(11), 7);
    }

    /** 9 ENDS and OTHERS by two POCKETS: 19 PILES, and ITEMS come to each that has the CODE of an END. */
    private void theMostPiles() {
        Sortpocket x = ends(9);
        x.design(2, 40);
        int[] banks = new int[40];
        for (int item = 0; item < 40; item++) {
            banks[item] = item % 10;
        }
        know(x, banks);
        tests.same("runs", x.runAll(), 9);
        int[] piles = {17, 18, 16, 14, 12, 10, 8, 6, 4, 2};
        for (int end = 0; end <= 9; end++) {
            tests.same("END of the PILE", x.ofPile(piles[end], 4), end);
            inPile("END " + end, x, piles[end], end, end + 10, end + 20, end + 30);
        }
        tests.same("SORTED", x.house(15), 40);
        tests.same("sound", x.isSound(), true);
    }

    /** "always the one with the smallest number that may be run and is not empty, until there is none". */
    private void runAllTakesTheSmallest() {
        Sortpocket x = withEnds(known(1, 1, 2, 2, 3, 3, 3, 9, 9, 9), 1, 2, 3);
        x.design(2, 2);
        tests.same("the first, and both POCKETS", x.runAll(), 3);
        tests.same("HANDLED", x.house(13), 20);
        tests.same("nothing is left", x.runAll(), 0);
        know(x, 2);
        tests.same("the first, and its POCKET 0", x.runAll(), 2);
        inPile("END 1", x, 4, 2, 3, 10);
        x.design(2, 2);
        x.run(0);
        tests.same("without the first, which is empty", x.runAll(), 2);
        know(x, 3);
        x.run(0);
        tests.same("one POCKET alone", x.runAll(), 1);
        tests.same("SORTED", x.house(15), 12);
    }

    /** fewest(): "no more HANDLING than that; NONE without one", "(2 to 6)". */
    private void fewestAtItsBounds() {
        Sortpocket x = ends(9);
        tests.same("0 of nothing KNOWN", x.fewest(0), 2);
        know(x, 0, 1, 2, 3, 4, 5, 6, 7, 8, 9);
        for (int pockets = 2; pockets <= 6; pockets++) {
            int handling = x.would(pockets, false);
            tests.same("just its HANDLING, with " + pockets, x.fewest(handling), pockets);
            tests.same("one less, with " + pockets, x.fewest(handling - 1), pockets < 6 ? pockets + 1 : -1);
        }
        tests.same("no HANDLING", x.fewest(0), -1);
        tests.same("any HANDLING", x.fewest(Integer.MAX_VALUE), 2);
        tests.same("of one GROUP", known(1, 2, 3).fewest(0), 2);
        Sortpocket two = withEnds(known(1, 2, 3), 1);
        tests.same("of two GROUPS, just its HANDLING", two.fewest(3), 2);
        tests.same("of two GROUPS, one less", two.fewest(2), -1);
    }

    /** would() and fewest(): "(nothing is changed)", also if there is a plan. */
    private void wouldChangesNothing() {
        Sortpocket x = withEnds(known(1, 1, 2, 3), 1, 2);
        x.design(2, 2);
        x.run(0);
        String before = new Caller(x).view();
        for (int pockets = 2; pockets <= 6; pockets++) {
            x.would(pockets, false);
            x.would(pockets, true);
            x.fewest(pockets);
        }
        tests.same("as before", new Caller(x).view(), before);
        tests.same("POCKETS", x.house(10), 2);
    }
}
