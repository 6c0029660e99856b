/** Parts 5 and 6 of the document, a test for each sentence that names a bound of totals and STUBS. */
final class TotalBounds {
    private static final Class<IllegalStateException> STATE = IllegalStateException.class;
    private static final Class<IndexOutOfBoundsException> INDEX = IndexOutOfBoundsException.class;
    private static final int ALL = 4095;
    private static final int TWICE = 0;
    private static final int WRONG_SIDE = 1;
    private static final int TURNED = 2;
    private static final int ONE_DIGIT = 3;

    private final Tests tests;

    TotalBounds(Tests tests) {
        this.tests = tests;
    }

    void all() {
        controlAtFirst();
        controlAtItsBounds();
        differenceAtItsBounds();
        onlyWhatIsKnown();
        asTheyAreKnown();
        byNine();
        nothingComesFromNoDifference();
        twice();
        wrongSide();
        turnedAtEachPlace();
        turnedWithZerosAhead();
        turnedNotTheSame();
        oneDigitOfEach();
        oneDigitFromNoughtTo99999();
        amountOfNought();
        byOneWayOrTwo();
        nthOfSome();
        stubsAreAtMostSixteen();
        notPaidAtFirst();
        presentedByAllThree();
        theStubWithTheSmallestNumber();
        aPaidStubIsNoneAnyMore();
        presentedAsItIsKnown();
        eachStubIsPaidOnce();
        refusedEver();
    }

    /** An object with ITEMS of these AMOUNTS in the BATCH 0, READ all. */
    private static Sortpocket amounts(int... amounts) {
        Sortpocket x = new Sortpocket();
        for (int amount : amounts) {
            x.item(1, 7, amount, 0, 0);
        }
        x.readAll();
        return x;
    }

    /** Whether an AMOUNT may be what a DIFFERENCE comes from, by a WAY. */
    private static boolean mayBe(int way, int amount, int difference) {
        // Others let the CONTROL be 0 or more, also if the DIFFERENCE is far below 0.
        Sortpocket x = amounts(amount, 99998, 99998, 99998);
        int differenceThen = x.control(0, amount + 3 * 99998 + difference);
        if (differenceThen != difference) {
            throw new AssertionError("another DIFFERENCE: " + differenceThen);
        }
        return x.hunt(0, way, 0) == 0;
    }

    private void hunts(int way, int amount, int difference, boolean due) {
        tests.same("way " + way + " of " + amount + " by " + difference, mayBe(way, amount, difference), due);
    }

    // ---- part 5

    /** "A BATCH can have a CONTROL (...; 0 at first)", the BATCHES 0 to 7. */
    private void controlAtFirst() {
        Sortpocket x = new Sortpocket();
        for (int batch = 0; batch <= 7; batch++) {
            for (int what = 0; what <= 4; what++) {
                tests.same("ofBatch(" + batch + ", " + what + ") at first", x.ofBatch(batch, what), 0);
            }
        }
        for (int batch : new int[] {-1, 8}) {
            tests.refuses(x, INDEX, "ofBatch", batch, 0);
            tests.refuses(x, INDEX, "control", batch, 0);
            tests.refuses(x, INDEX, "hunt", batch, 0, 0);
        }
    }

    /** "CONTROL (0 to 9999999 ...)": each BATCH has one of its own. */
    private void controlAtItsBounds() {
        Sortpocket x = new Sortpocket();
        for (int batch = 0; batch <= 7; batch++) {
            tests.same("DIFFERENCE then", x.control(batch, 9999999 - batch), 9999999 - batch);
        }
        for (int batch = 0; batch <= 7; batch++) {
            tests.same("CONTROL", x.ofBatch(batch, 0), 9999999 - batch);
            tests.refuses(x, IllegalArgumentException.class, "control", batch, 10000000);
            tests.refuses(x, IllegalArgumentException.class, "control", batch, -1);
            tests.same("DIFFERENCE then", x.control(batch, 0), 0);
            tests.same("CONTROL", x.ofBatch(batch, 0), 0);
        }
    }

    /** "CONTROL, less the AMOUNTS": from 9999999 down to less than 0. */
    private void differenceAtItsBounds() {
        Sortpocket x = new Sortpocket();
        tests.same("the most", x.control(7, 9999999), 9999999);
        for (int item = 0; item < 40; item++) {
            x.item(1, 1, 99999, 7, 0);
        }
        x.readAll();
        tests.same("with 40 of 99999", x.ofBatch(7, 1), 9999999 - 3999960);
        tests.same("the least", x.control(7, 0), -3999960);
        tests.same("ITEMS", x.ofBatch(7, 2), 40);
        tests.same("KNOWN ones", x.ofBatch(7, 3), 40);
        tests.same("of another BATCH", x.ofBatch(6, 1), 0);
        tests.same("one less", x.control(7, 3999959), -1);
        tests.same("just that", x.control(7, 3999960), 0);
        tests.same("one more", x.control(7, 3999961), 1);
    }

    /** "its ITEMS that are KNOWN": neither RAW nor REJECTED ones. */
    private void onlyWhatIsKnown() {
        Sortpocket x = new Sortpocket();
        x.control(3, 1000);
        int[] smudged = {0, 0, ALL, ALL};
        for (int item = 0; item < 4; item++) {
            x.item(1, 1, 1 << item, 3, smudged[item]);
        }
        tests.same("nothing is KNOWN", x.ofBatch(3, 1), 1000);
        x.read(2);
        x.read(3);
        tests.same("two are REJECTED", x.ofBatch(3, 1), 1000);
        x.read(1);
        tests.same("one is READ", x.ofBatch(3, 1), 998);
        x.key(3);
        tests.same("one is KEYED", x.ofBatch(3, 1), 990);
        tests.same("ITEMS", x.ofBatch(3, 2), 4);
        tests.same("KNOWN ones", x.ofBatch(3, 3), 2);
        int[] hunted = {-1, 1, -1, 3};
        for (int item = 0; item < 4; item++) {
            tests.same("DIFFERENCE", x.control(3, 10 - (1 << item)), -(1 << item));
            tests.same("only KNOWN ones are hunted", x.hunt(3, TWICE, 0), hunted[item]);
        }
    }

    /** "the AMOUNTS ..., as they are KNOWN": 3456 and 789 that both KEYERS made 3466 and 889. */
    private void asTheyAreKnown() {
        Sortpocket x = new Sortpocket();
        x.item(12, 3456, 789, 0, ALL);
        x.readAll();
        x.keyer(0, 5);
        x.keyer(1, 5);
        x.key(0);
        tests.same("less the AMOUNT as it is KNOWN", x.control(0, 889), 0);
        tests.same("not its own", x.control(0, 789), -100);
        tests.same("-100 is of one digit", x.hunt(0, ONE_DIGIT, 0), 0);
        tests.same("9 makes 898 of 889", x.control(0, 898), 9);
        tests.same("TURNED by the AMOUNT as it is KNOWN", x.hunt(0, TURNED, 0), 0);
        tests.same("90 would make 879 of 789", x.control(0, 889 + 90), 90);
        tests.same("not TURNED by its own", x.hunt(0, TURNED, 0), -1);
    }

    /** ofBatch(.., 4): "1 if DIFFERENCE can be divided by 9 and is not 0". */
    private void byNine() {
        Sortpocket x = amounts(99999, 1);
        int[][] cases = {{0, 0}, {1, 0}, {8, 0}, {9, 1}, {10, 0}, {18, 1}, {-1, 0}, {-8, 0}, {-9, 1}, {-10, 0},
            {-18, 1}, {3, 0}, {-3, 0}, {-99999, 1}, {-99998, 0}, {9000000, 1}, {9000001, 0}};
        for (int[] c : cases) {
            tests.same("DIFFERENCE", x.control(0, 100000 + c[0]), c[0]);
            tests.same("by 9: " + c[0], x.ofBatch(0, 4), c[1]);
        }
        Sortpocket most = new Sortpocket();
        tests.same("the most", most.control(5, 9999999), 9999999);
        tests.same("the most by 9", most.ofBatch(5, 4), 1);
    }

    /** "With a DIFFERENCE d other than 0". */
    private void nothingComesFromNoDifference() {
        int[] amounts = {1, 9, 10, 11, 11111, 12345, 50000, 99999};
        for (int amount : amounts) {
            for (int way = 0; way <= 3; way++) {
                hunts(way, amount, 0, false);
            }
        }
    }

    /** "0 TWICE: a is -d". */
    private void twice() {
        for (int amount : new int[] {1, 2, 500, 99999}) {
            hunts(TWICE, amount, -amount, true);
            hunts(TWICE, amount, amount, false);
            hunts(TWICE, amount, -amount - 1, false);
            hunts(TWICE, amount, -amount + 1, false);
            hunts(TWICE, amount, -2 * amount, false);
        }
    }

    /** "1 WRONG SIDE: 2 * a is d or -d". */
    private void wrongSide() {
        for (int amount : new int[] {1, 2, 500, 99999}) {
            hunts(WRONG_SIDE, amount, 2 * amount, true);
            hunts(WRONG_SIDE, amount, -2 * amount, true);
            hunts(WRONG_SIDE, amount, 2 * amount + 1, false);
            hunts(WRONG_SIDE, amount, 2 * amount - 1, false);
            hunts(WRONG_SIDE, amount, -2 * amount - 1, false);
            hunts(WRONG_SIDE, amount, -2 * amount + 1, false);
            hunts(WRONG_SIDE, amount, amount, false);
            hunts(WRONG_SIDE, amount, -amount, false);
        }
    }

    /** "2 TURNED: two digits of a ... beside each other": at each of four places, to more and to less. */
    private void turnedAtEachPlace() {
        int[] up = {21345, 13245, 12435, 12354};
        for (int turned : up) {
            hunts(TURNED, 12345, turned - 12345, true);
            hunts(TURNED, 12345, turned - 12345 + 1, false);
            hunts(TURNED, 12345, turned - 12345 - 1, false);
            hunts(TURNED, turned, 12345 - turned, true);
            hunts(TURNED, 12345, 12345 - turned, false);
        }
        int[] notBeside = {32145, 14325, 12543, 42315, 15342, 52341, 13425, 54321};
        for (int other : notBeside) {
            hunts(TURNED, 12345, other - 12345, false);
        }
    }

    /** "(five, with zeros ahead)". */
    private void turnedWithZerosAhead() {
        int[][] pairs = {{1, 10}, {10, 100}, {100, 1000}, {1000, 10000}, {12, 102}, {90000, 9000}, {10000, 1000}};
        for (int[] pair : pairs) {
            hunts(TURNED, pair[0], pair[1] - pair[0], true);
            hunts(TURNED, pair[1], pair[0] - pair[1], true);
        }
        hunts(TURNED, 10000, 1 - 10000, false);
        hunts(TURNED, 10000, 90000, false);
        hunts(TURNED, 1, 99, false);
    }

    /** "and not the same". */
    private void turnedNotTheSame() {
        for (int amount : new int[] {11, 11111, 99999, 55, 10011}) {
            for (int difference : new int[] {1, -1, 9, -9, 10}) {
                hunts(TURNED, amount, difference, false);
            }
        }
        hunts(TURNED, 10011, 1000 - 10000, true);
        hunts(TURNED, 10011, 90, true);
    }

    /** "3 ONE DIGIT: ... just one of its five digits is another one than that of a". */
    private void oneDigitOfEach() {
        for (int unit = 1; unit <= 10000; unit *= 10) {
            hunts(ONE_DIGIT, 44444, unit, true);
            hunts(ONE_DIGIT, 44444, -unit, true);
            hunts(ONE_DIGIT, 44444, 5 * unit, true);
            hunts(ONE_DIGIT, 44444, -4 * unit, true);
            hunts(ONE_DIGIT, 44444, 6 * unit, false);
            hunts(ONE_DIGIT, 44444, -5 * unit, false);
            hunts(ONE_DIGIT, 44444, 11 * unit, false);
            hunts(ONE_DIGIT, 44444, -11 * unit, false);
            hunts(ONE_DIGIT, 44444, 9 * unit, false);
        }
        hunts(ONE_DIGIT, 44444, 10001, false);
        hunts(ONE_DIGIT, 44444, 11111, false);
        hunts(ONE_DIGIT, 9, 1, false);
        hunts(ONE_DIGIT, 10, -1, false);
    }

    /** "a + d is 0 to 99999". */
    private void oneDigitFromNoughtTo99999() {
        hunts(ONE_DIGIT, 5, -5, true);
        hunts(ONE_DIGIT, 5, -6, false);
        hunts(ONE_DIGIT, 1, -2, false);
        hunts(ONE_DIGIT, 50, -50, true);
        hunts(ONE_DIGIT, 51, -51, false);
        hunts(ONE_DIGIT, 90000, -90000, true);
        hunts(ONE_DIGIT, 99998, 1, true);
        hunts(ONE_DIGIT, 99999, 1, false);
        hunts(ONE_DIGIT, 9999, 90000, true);
        hunts(ONE_DIGIT, 9999, 90001, false);
        hunts(ONE_DIGIT, 5, 99995, false);
        hunts(ONE_DIGIT, 5, 100000, false);
        hunts(ONE_DIGIT, 10005, 90000, false);
        hunts(ONE_DIGIT, 10005, 100000, false);
        hunts(ONE_DIGIT, 5, -10, false);
        hunts(ONE_DIGIT, 30000, -60000, false);
    }

    /** An ITEM of 9 that is KNOWN by 0: the last digit slipped, and a lost one made up for that. */
    private void amountOfNought() {
        Sortpocket x = new Sortpocket();
        x.item(12, 3456, 9, 0, 0);
        x.machine(5, 5);
        x.readAll();
        tests.same("AMOUNT as it is KNOWN", x.ofItem(0, 8), 0);
        int[][] due = {{0, -1, -1, -1, -1}, {9, -1, -1, -1, 0}, {10, -1, -1, -1, 0}, {11, -1, -1, -1, -1},
            {90000, -1, -1, -1, 0}, {100000, -1, -1, -1, -1}};
        for (int[] d : due) {
            tests.same("DIFFERENCE", x.control(0, d[0]), d[0]);
            for (int way = 0; way <= 3; way++) {
                tests.same("way " + way + " of 0 by " + d[0], x.hunt(0, way, 0), d[way + 1]);
            }
        }
        tests.same("a STUB has 1 at least", x.stub(3455, 1), 0);
        tests.same("so its ACCOUNT alone", x.present(0), 2);
    }

    /** A DIFFERENCE may come from an ITEM by more than one WAY. */
    private void byOneWayOrTwo() {
        boolean[][] due = {{true, false, false, false}, {false, true, false, false}, {false, false, true, false},
            {false, false, false, true}, {true, false, false, true}, {false, true, false, true}};
        int[][] cases = {{123, -123}, {123, 246}, {12, 9}, {500, 300}, {500, -500}, {500, 1000}};
        for (int k = 0; k < cases.length; k++) {
            for (int way = 0; way <= 3; way++) {
                hunts(way, cases[k][0], cases[k][1], due[k][way]);
            }
        }
    }

    /** "the nth ITEM of that BATCH ...; NONE, if there are not so many". */
    private void nthOfSome() {
        Sortpocket x = new Sortpocket();
        for (int item = 0; item < 40; item++) {
            x.item(1, 1, 100, item % 2, 0);
        }
        x.readAll();
        tests.same("DIFFERENCE", x.control(1, 1900), -100);
        for (int nth = 0; nth < 20; nth++) {
            tests.same("TWICE, the " + nth, x.hunt(1, TWICE, nth), 2 * nth + 1);
        }
        tests.same("behind the last", x.hunt(1, TWICE, 20), -1);
        tests.same("far behind", x.hunt(1, TWICE, Integer.MAX_VALUE), -1);
        tests.same("none at all", x.hunt(1, WRONG_SIDE, 0), -1);
        tests.same("DIFFERENCE of a BATCH without ITEMS", x.control(7, 5), 5);
        tests.same("none of a BATCH without ITEMS", x.hunt(7, ONE_DIGIT, 0), -1);
    }

    // ---- part 6

    /** "STUBS: at most 16, numbered from 0". */
    private void stubsAreAtMostSixteen() {
        Sortpocket x = new Sortpocket();
        for (int stub = 0; stub < 16; stub++) {
            tests.refuses(x, INDEX, "ofStub", stub, 0);
            tests.same("number of the STUB", x.stub(stub % 2 * 9999, stub < 8 ? 1 : 99999), stub);
            tests.same("STUBS", x.house(16), stub + 1);
        }
        tests.refuses(x, STATE, "stub", 0, 1);
        tests.refuses(x, INDEX, "ofStub", 16, 0);
        tests.refuses(x, INDEX, "ofStub", -1, 0);
        for (int stub = 0; stub < 16; stub++) {
            tests.same("its ACCOUNT", x.ofStub(stub, 0), stub % 2 * 9999);
            tests.same("its AMOUNT", x.ofStub(stub, 1), stub < 8 ? 1 : 99999);
        }
    }

    /** "PAID or not (not at first)". */
    private void notPaidAtFirst() {
        Sortpocket x = amounts(100);
        tests.same("no STUB, none PAID", x.house(17), 0);
        x.stub(7, 100);
        tests.same("not PAID", x.ofStub(0, 2), 0);
        tests.same("none PAID", x.house(17), 0);
        tests.same("not PRESENTED", x.ofItem(0, 13), 0);
    }

    /** "if it was PRESENTED ahead: 4"; "(It is PRESENTED then by 1, 2 and 3 alike.)" */
    private void presentedByAllThree() {
        Sortpocket x = amounts(100, 200, 300);
        x.stub(7, 100);
        tests.same("of both", x.present(0), 1);
        tests.same("of an ACCOUNT that has none that is not PAID", x.present(2), 3);
        x.stub(7, 100);
        tests.same("of that ACCOUNT", x.present(1), 2);
        x.stub(7, 200);
        x.stub(7, 300);
        for (int again = 0; again < 2; again++) {
            for (int item = 0; item < 3; item++) {
                tests.same("PRESENTED ahead", x.present(item), 4);
                tests.same("the first time", x.ofItem(item, 13), new int[] {1, 2, 3}[item]);
            }
        }
        tests.same("PAID ones", x.house(17), 1);
        for (int stub = 1; stub < 4; stub++) {
            tests.same("not PAID by 4", x.ofStub(stub, 2), 0);
        }
        tests.same("sound", x.isSound(), true);
    }

    /** Of several STUBS of both that with the smallest number is PAID. */
    private void theStubWithTheSmallestNumber() {
        Sortpocket x = amounts(100, 100, 100);
        x.stub(7, 99);
        x.stub(8, 100);
        x.stub(7, 100);
        x.stub(7, 100);
        int[] paid = {2, 3};
        for (int item = 0; item < 2; item++) {
            tests.same("of both", x.present(item), 1);
            for (int stub = 0; stub < 4; stub++) {
                boolean isPaid = stub == paid[0] || item == 1 && stub == paid[1];
                tests.same("PAID " + stub + " by " + item, x.ofStub(stub, 2), isPaid ? 1 : 0);
            }
        }
        tests.same("of the ACCOUNT alone is left", x.present(2), 2);
    }

    /** "if there is one of that ACCOUNT that is not PAID": one that is PAID counts for neither. */
    private void aPaidStubIsNoneAnyMore() {
        Sortpocket x = amounts(100, 100, 200);
        x.stub(7, 100);
        tests.same("of both", x.present(0), 1);
        tests.same("it is PAID", x.present(1), 3);
        tests.same("nor is there one of the ACCOUNT", x.present(2), 3);
        Sortpocket y = amounts(100, 101, 99);
        y.stub(6, 100);
        y.stub(8, 100);
        tests.same("of other ACCOUNTS", y.present(0), 3);
        y.stub(7, 100);
        tests.same("one more than that", y.present(1), 2);
        tests.same("one less than that", y.present(2), 2);
        tests.same("without a STUB", amounts(100).present(0), 3);
    }

    /** "by its ACCOUNT and AMOUNT as they are KNOWN": 3466 and 889, though its own are 3456 and 789. */
    private void presentedAsItIsKnown() {
        int[][] cases = {{3466, 889, 1}, {3466, 789, 2}, {3456, 889, 3}, {3456, 789, 3}};
        for (int[] c : cases) {
            Sortpocket x = new Sortpocket();
            x.item(12, 3456, 789, 0, ALL);
            x.readAll();
            x.keyer(0, 5);
            x.keyer(1, 5);
            x.key(0);
            x.stub(c[0], c[1]);
            tests.same("with a STUB of " + c[0] + " and " + c[1], x.present(0), c[2]);
            tests.same("PAID", x.ofStub(0, 2), c[2] == 1 ? 1 : 0);
        }
    }

    /** All 16 STUBS are PAID, by 16 ITEMS; the 17th finds none. */
    private void eachStubIsPaidOnce() {
        int[] same = new int[17];
        java.util.Arrays.fill(same, 100);
        Sortpocket x = amounts(same);
        for (int stub = 0; stub < 16; stub++) {
            x.stub(7, 100);
        }
        for (int item = 0; item < 16; item++) {
            tests.same("of both", x.present(item), 1);
            tests.same("PAID ones", x.house(17), item + 1);
        }
        tests.same("none is left", x.present(16), 3);
        tests.same("sound", x.isSound(), true);
        tests.refuses(x, STATE, "stub", 7, 100);
        x.item(1, 7, 100, 0, ALL);
        tests.refuses(x, STATE, "present", 17);
        x.read(17);
        tests.refuses(x, STATE, "present", 17);
        x.key(17);
        tests.same("one that is KEYED", x.present(17), 3);
        tests.refuses(x, INDEX, "present", 18);
    }

    /** "who knocks without it is REFUSED (counted)", as often as an object is used. */
    private void refusedEver() {
        Sortpocket x = new Sortpocket();
        tests.same("none at first", x.house(18), 0);
        for (int knock = 1; knock <= 510; knock++) {
            tests.same("REFUSED ever, with this", x.knock(), knock);
        }
        tests.same("REFUSED", x.house(18), 510);
    }
}
