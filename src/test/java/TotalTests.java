/** Promises 12 to 15 and 22 to 24: totals, stubs, the vault. */
final class TotalTests {
    private static final Class<IllegalArgumentException> BAD = IllegalArgumentException.class;
    private static final Class<IllegalStateException> STATE = IllegalStateException.class;
    private static final Class<IndexOutOfBoundsException> INDEX = IndexOutOfBoundsException.class;
    private static final int TWICE = 0;
    private static final int WRONG_SIDE = 1;
    private static final int TURNED = 2;
    private static final int ONE_DIGIT = 3;

    private final Tests tests;

    TotalTests(Tests tests) {
        this.tests = tests;
    }

    void all() {
        control();
        ofBatch();
        totalsByWhatIsKnown();
        nothingIsMissing();
        hunt();
        huntNth();
        huntIsRefused();
        stub();
        stubIsRefused();
        present();
        presentByWhatIsKnown();
        presentIsRefused();
        ofStub();
        knock();
    }

    /** An object with ITEMS of these AMOUNTS in the BATCH 2, READ all. */
    private static Sortpocket amounts(int... amounts) {
        Sortpocket x = new Sortpocket();
        for (int amount : amounts) {
            x.item(1, 7, amount, 2, 0);
        }
        x.readAll();
        return x;
    }

    private void control() {
        Sortpocket x = amounts(100, 50);
        tests.same("less than that", x.control(2, 149), -1);
        tests.same("more than that", x.control(2, 9999999), 9999849);
        tests.same("just that", x.control(2, 150), 0);
        tests.same("another BATCH", x.control(0, 7), 7);
        tests.same("the last BATCH", x.control(7, 0), 0);
        tests.same("CONTROL", x.ofBatch(2, 0), 150);
        tests.refuses(x, INDEX, "control", -1, 0);
        tests.refuses(x, INDEX, "control", 8, 0);
        tests.refuses(x, INDEX, "control", 8, -1);
        tests.refuses(x, BAD, "control", 2, -1);
        tests.refuses(x, BAD, "control", 2, 10000000);
    }

    private void ofBatch() {
        Sortpocket x = amounts(100, 50);
        x.item(1, 1, 1, 2, 4095);
        x.item(1, 1, 1, 3, 0);
        int[] due = {0, -150, 3, 2, 0};
        for (int what = 0; what < 5; what++) {
            tests.same("ofBatch(2, " + what + ")", x.ofBatch(2, what), due[what]);
        }
        tests.same("ITEMS of another", x.ofBatch(3, 2), 1);
        tests.same("none of them KNOWN", x.ofBatch(3, 3), 0);
        int[][] nines = {{150, 0}, {159, 1}, {141, 1}, {151, 0}, {149, 0}, {153, 0}, {240, 1}};
        for (int[] n : nines) {
            x.control(2, n[0]);
            tests.same("by 9 with CONTROL " + n[0], x.ofBatch(2, 4), n[1]);
        }
        tests.refuses(x, INDEX, "ofBatch", -1, 0);
        tests.refuses(x, INDEX, "ofBatch", 8, 5);
        tests.refuses(x, BAD, "ofBatch", 0, 5);
        tests.refuses(x, BAD, "ofBatch", 7, -1);
    }

    /** An ITEM 3456 and 789 that is KNOWN as 3466 and 889, as both KEYERS slipped alike. */
    private static Sortpocket wrong() {
        Sortpocket x = new Sortpocket();
        x.item(12, 3456, 789, 2, 4095);
        x.readAll();
        x.keyer(0, 5);
        x.keyer(1, 5);
        x.key(0);
        return x;
    }

    private void totalsByWhatIsKnown() {
        Sortpocket x = wrong();
        tests.same("DIFFERENCE", x.control(2, 0), -889);
        tests.same("TWICE", x.hunt(2, TWICE, 0), 0);
        x.control(2, 789);
        tests.same("ONE DIGIT", x.hunt(2, ONE_DIGIT, 0), 0);
        x.control(2, 898);
        tests.same("TURNED", x.hunt(2, TURNED, 0), 0);
        x.control(2, 3 * 889);
        tests.same("WRONG SIDE", x.hunt(2, WRONG_SIDE, 0), 0);
    }

    /** An ITEM of 9 that is KNOWN by 0, as the last digit slipped and a lost one made up for that. */
    private void nothingIsMissing() {
        Sortpocket x = new Sortpocket();
        x.item(12, 3456, 9, 2, 0);
        x.machine(5, 5);
        x.readAll();
        tests.same("AMOUNT as it is KNOWN", x.ofItem(0, 8), 0);
        tests.same("DIFFERENCE", x.control(2, 0), 0);
        for (int way = 0; way < 4; way++) {
            tests.same("nothing comes from it by way " + way, x.hunt(2, way, 0), -1);
        }
    }

    /** Tells whether an AMOUNT may be what a DIFFERENCE comes from, by each WAY. */
    private void mayBe(int amount, int difference, boolean... due) {
        // A second ITEM lets the CONTROL be what it must, also if the DIFFERENCE is below 0.
        Sortpocket x = new Sortpocket();
        x.item(1, 7, amount, 2, 0);
        for (int k = 0; k < 3; k++) {
            x.item(1, 7, 99998, 2, 0);
        }
        x.readAll();
        int rest = 3 * 99998;
        tests.same("DIFFERENCE", x.control(2, amount + rest + difference), difference);
        for (int way = 0; way < 4; way++) {
            tests.same("way " + way + " of " + amount + " by " + difference, x.hunt(2, way, 0) == 0, due[way]);
        }
    }

    private void hunt() {
        mayBe(100, 0, false, false, false, false);
        mayBe(100, -100, true, false, false, true);
        mayBe(100, 100, false, false, false, true);
        mayBe(123, -123, true, false, false, false);
        mayBe(123, 123, false, false, false, false);
        mayBe(123, 246, false, true, false, false);
        mayBe(123, -246, false, true, false, false);
        mayBe(123, -245, false, false, false, false);
        mayBe(12, 9, false, false, true, false);
        mayBe(21, -9, false, false, true, false);
        mayBe(12, 90, false, false, true, false);
        mayBe(10000, -9000, false, false, true, false);
        mayBe(1000, 9000, false, false, true, false);
        mayBe(99999, 9, false, false, false, false);
        mayBe(12345, 99 * 2, false, false, false, false);
        mayBe(12345, 90, false, false, true, false);
        mayBe(12345, 900, false, false, true, false);
        mayBe(90, 5, false, false, false, true);
        mayBe(95, 5, false, false, false, false);
        mayBe(95, 10, false, false, false, false);
        mayBe(1, -1, true, false, false, true);
        mayBe(5, -6, false, false, false, false);
        mayBe(5, -10, false, true, false, false);
        mayBe(99999, 1, false, false, false, false);
        mayBe(99999, -90000, false, false, false, true);
        mayBe(99999, -1, false, false, false, true);
        mayBe(5, 100000, false, false, false, false);
        mayBe(9, 90000, false, false, false, true);
        mayBe(50000, 100000, false, true, false, false);
        mayBe(50505, -50505, true, false, false, false);
        mayBe(12345, 90000, false, false, false, false);
        mayBe(5, 1, false, false, false, true);
    }

    private void huntNth() {
        Sortpocket x = new Sortpocket();
        x.item(1, 1, 50, 3, 0);
        x.item(1, 1, 50, 3, 4095);
        x.item(1, 1, 50, 4, 0);
        x.item(1, 1, 60, 3, 0);
        x.item(1, 1, 50, 3, 0);
        x.readAll();
        tests.same("DIFFERENCE", x.control(3, 110), -50);
        int[] due = {0, 4, -1};
        for (int nth = 0; nth < 3; nth++) {
            tests.same("the one with the number " + nth, x.hunt(3, TWICE, nth), due[nth]);
        }
        tests.same("far behind", x.hunt(3, TWICE, Integer.MAX_VALUE), -1);
        tests.same("of a BATCH without ITEMS", x.hunt(0, TWICE, 0), -1);
        x.key(1);
        tests.same("DIFFERENCE then", x.control(3, 160), -50);
        tests.same("one that is KNOWN now", x.hunt(3, TWICE, 1), 1);
    }

    private void huntIsRefused() {
        Sortpocket x = amounts(100);
        tests.refuses(x, INDEX, "hunt", -1, 0, 0);
        tests.refuses(x, INDEX, "hunt", 8, 4, -1);
        tests.refuses(x, BAD, "hunt", 0, -1, 0);
        tests.refuses(x, BAD, "hunt", 7, 4, 0);
        tests.refuses(x, BAD, "hunt", 2, 0, -1);
        tests.refuses(x, BAD, "hunt", 2, 3, Integer.MIN_VALUE);
    }

    private void stub() {
        Sortpocket x = new Sortpocket();
        tests.same("first STUB", x.stub(0, 1), 0);
        tests.same("second STUB", x.stub(9999, 99999), 1);
        tests.same("STUBS", x.house(16), 2);
        tests.same("PAID ones", x.house(17), 0);
        for (int k = 2; k < 16; k++) {
            tests.same("STUB " + k, x.stub(5, 5), k);
        }
    }

    private void stubIsRefused() {
        Sortpocket x = new Sortpocket();
        Sortpocket full = new Sortpocket();
        for (int k = 0; k < 16; k++) {
            full.stub(1, 1);
        }
        int[][] wrong = {{-1, 1}, {10000, 1}, {0, 0}, {0, 100000}, {0, -1}, {Integer.MIN_VALUE, 1}};
        for (int[] w : wrong) {
            tests.refuses(x, BAD, "stub", w[0], w[1]);
            tests.refuses(full, BAD, "stub", w[0], w[1]);
        }
        tests.refuses(full, STATE, "stub", 1, 1);
    }

    private void present() {
        Sortpocket x = amounts(100, 100, 100, 200, 300);
        x.stub(8, 100);
        x.stub(7, 200);
        x.stub(7, 100);
        x.stub(7, 100);
        int[] due = {1, 1, 2, 1, 3};
        int[][] paid = {{2}, {2, 3}, {2, 3}, {1, 2, 3}, {1, 2, 3}};
        for (int item = 0; item < due.length; item++) {
            tests.same("present(" + item + ")", x.present(item), due[item]);
            tests.same("again", x.present(item), 4);
            tests.same("the first time", x.ofItem(item, 13), due[item]);
            tests.same("PAID ones", x.house(17), paid[item].length);
            for (int stub : paid[item]) {
                tests.same("PAID " + stub, x.ofStub(stub, 2), 1);
            }
        }
        tests.same("a STUB of another ACCOUNT", x.ofStub(0, 2), 0);
        x.stub(7, 300);
        tests.same("it stays PRESENTED", x.present(4), 4);
        tests.same("and the STUB is not PAID", x.ofStub(4, 2), 0);
    }

    private void presentByWhatIsKnown() {
        Sortpocket x = wrong();
        x.stub(3456, 789);
        x.stub(3466, 789);
        x.stub(3456, 889);
        x.stub(3466, 889);
        tests.same("by ACCOUNT and AMOUNT as they are KNOWN", x.present(0), 1);
        tests.same("that STUB is PAID", x.ofStub(3, 2), 1);
        Sortpocket other = wrong();
        other.stub(3456, 789);
        tests.same("no STUB of that ACCOUNT", other.present(0), 3);
        Sortpocket account = wrong();
        account.stub(3466, 789);
        tests.same("a STUB of that ACCOUNT", account.present(0), 2);
        tests.same("is not PAID", account.ofStub(0, 2), 0);
    }

    private void presentIsRefused() {
        Sortpocket x = amounts(100);
        x.item(1, 7, 100, 2, 4095);
        x.stub(7, 100);
        tests.refuses(x, STATE, "present", 1);
        x.readAll();
        tests.refuses(x, STATE, "present", 1);
        tests.refuses(x, INDEX, "present", 2);
        tests.refuses(x, INDEX, "present", -1);
        x.key(1);
        tests.same("one that is KEYED", x.present(1), 1);
    }

    private void ofStub() {
        Sortpocket x = amounts(99999);
        x.stub(7, 99999);
        int[] due = {7, 99999, 0};
        for (int what = 0; what < 3; what++) {
            tests.same("ofStub(0, " + what + ")", x.ofStub(0, what), due[what]);
        }
        x.present(0);
        tests.same("PAID", x.ofStub(0, 2), 1);
        tests.refuses(x, INDEX, "ofStub", 1, 0);
        tests.refuses(x, INDEX, "ofStub", -1, 3);
        tests.refuses(x, INDEX, "ofStub", 16, 0);
        tests.refuses(x, BAD, "ofStub", 0, 3);
        tests.refuses(x, BAD, "ofStub", 0, -1);
    }

    private void knock() {
        Sortpocket x = new Sortpocket();
        for (int k = 1; k <= 3; k++) {
            tests.same("knock", x.knock(), k);
            tests.same("REFUSED", x.house(18), k);
        }
    }
}
