/** Promises 1 to 7, 16, 17, 26 and 27: lines, reading, and the desk. */
final class ReadingTests {
    private static final Class<IllegalArgumentException> BAD = IllegalArgumentException.class;
    private static final Class<IllegalStateException> STATE = IllegalStateException.class;
    private static final Class<IndexOutOfBoundsException> INDEX = IndexOutOfBoundsException.class;
    private static final int ALL = 4095;

    private final Tests tests;

    ReadingTests(Tests tests) {
        this.tests = tests;
    }

    void all() {
        newObject();
        item();
        itemIsRefused();
        machine();
        keyer();
        read();
        readByLuck();
        readReckons();
        readMayBeWrong();
        readDrawsTowardsZero();
        readIsRefused();
        readAll();
        key();
        keyersSlipAlike();
        keyersSlipFromNine();
        keyerTellsEveryAsItIsNow();
        keyIsRefused();
        ofItem();
        line();
        check();
        blind();
    }

    private static Sortpocket with(int... smudged) {
        Sortpocket x = new Sortpocket();
        for (int places : smudged) {
            x.item(12, 3456, 789, 0, places);
        }
        return x;
    }

    private static Sortpocket full() {
        return with(new int[40]);
    }

    private void newObject() {
        Sortpocket x = new Sortpocket();
        for (int what = 0; what <= 18; what++) {
            tests.same("house(" + what + ") of a new object", x.house(what), what == 8 ? 17 : 0);
        }
        tests.same("CODE of OTHERS", x.code(0), "-");
        tests.same("CONTROL", x.ofBatch(7, 0), 0);
        tests.same("EVERY", x.keyer(0, 2) + x.keyer(1, 2), 198);
        tests.same("FAULT", x.machine(1, 1), 0);
        tests.refuses(x, INDEX, "ofItem", 0, 0);
        tests.refuses(x, INDEX, "ofStub", 0, 0);
        tests.refuses(x, INDEX, "ofPile", 0, 0);
    }

    private void item() {
        Sortpocket x = new Sortpocket();
        tests.same("first item", x.item(0, 0, 1, 0, 0), 0);
        tests.same("second item", x.item(99, 9999, 99999, 7, ALL), 1);
        int[] due = {99, 9999, 99999, 7, ALL, 0, -1, -1, -1, 0, -1, -1, 0, 0};
        for (int what = 0; what < due.length; what++) {
            tests.same("ofItem(1, " + what + ")", x.ofItem(1, what), due[what]);
        }
        tests.same("its line", x.line(1, true), "999999799999");
        tests.same("ITEMS", x.house(0), 2);
        tests.same("RAW ones", x.house(1), 2);
        tests.same("the last that may come", full().ofItem(39, 0), 12);
    }

    private void itemIsRefused() {
        Sortpocket x = with(0);
        Sortpocket full = full();
        int[][] wrong = {{-1, 0, 1, 0, 0}, {100, 0, 1, 0, 0}, {0, -1, 1, 0, 0}, {0, 10000, 1, 0, 0}, {0, 0, 0, 0, 0},
            {0, 0, 100000, 0, 0}, {0, 0, 1, -1, 0}, {0, 0, 1, 8, 0}, {0, 0, 1, 0, -1}, {0, 0, 1, 0, 4096},
            {Integer.MIN_VALUE, 0, 1, 0, 0}, {0, Integer.MAX_VALUE, 1, 0, 0}, {0, 0, Integer.MIN_VALUE, 0, 0}};
        for (int[] w : wrong) {
            tests.refuses(x, BAD, "item", w[0], w[1], w[2], w[3], w[4]);
            tests.refuses(full, BAD, "item", w[0], w[1], w[2], w[3], w[4]);
        }
        tests.refuses(full, STATE, "item", 0, 0, 1, 0, 0);
    }

    private void machine() {
        Sortpocket x = with(0, 0);
        tests.same("FAULT at first", x.machine(20, 20), 0);
        tests.same("FAULT before", x.machine(0, 0), 20);
        int[][] wrong = {{-1, 20}, {21, 20}, {20, -1}, {20, 21}, {Integer.MAX_VALUE, Integer.MIN_VALUE}};
        for (int[] w : wrong) {
            tests.refuses(x, BAD, "machine", w[0], w[1]);
        }
        tests.same("a refused call leaves FAULT", x.machine(0, 0), 0);
        tests.refuses(x, BAD, "machine", 21, 20);
        tests.same("a refused call leaves SLIP", x.readAll() + x.house(5), 0);
    }

    private void keyer() {
        Sortpocket x = new Sortpocket();
        tests.same("EVERY of 0", x.keyer(0, 2), 99);
        tests.same("EVERY of 1", x.keyer(1, 99), 99);
        tests.same("EVERY of 0 before", x.keyer(0, 50), 2);
        tests.refuses(x, INDEX, "keyer", -1, 5);
        tests.refuses(x, INDEX, "keyer", 2, 5);
        tests.refuses(x, INDEX, "keyer", 2, 1);
        tests.refuses(x, BAD, "keyer", 0, 1);
        tests.refuses(x, BAD, "keyer", 1, 100);
        tests.refuses(x, BAD, "keyer", 0, Integer.MIN_VALUE);
        tests.same("a refused call leaves EVERY of 0", x.keyer(0, 3), 50);
        tests.same("a refused call leaves EVERY of 1", x.keyer(1, 3), 99);
    }

    private void read() {
        Sortpocket x = with(0, 1 << 11, 3, ALL);
        tests.same("nothing smudged", x.read(0), 0);
        tests.same("LUCK after 12 draws", x.house(8), 245);
        tests.same("READ", x.ofItem(0, 5), 1);
        tests.same("one place smudged", x.read(1), 1);
        tests.same("two smudged", x.read(2), 2);
        tests.same("REJECTED", x.ofItem(2, 5), 2);
        tests.same("no line is known of one that is rejected", x.line(2, false), "-");
        int luck = x.house(8);
        tests.same("all smudged", x.read(3), 12);
        tests.same("nothing is drawn for what is smudged", x.house(8), luck);
        Sortpocket one = with(ALL - 1);
        one.read(0);
        tests.same("LUCK after one draw", one.house(8), 42);
    }

    /** The first 12 that are drawn of 100 are 16, 12, 50, 61, 52, 4, 73, 91, 63, 71, 71, 95. */
    private void readByLuck() {
        int[][] cases = {{4, 4, 0, 1}, {5, 4, 1, 1}, {12, 0, 1, 1}, {13, 0, 2, 2}, {17, 0, 3, 2}, {4, 5, 0, 2}, {0, 9, 0, 2}};
        for (int[] c : cases) {
            Sortpocket x = with(0);
            x.machine(c[0], c[1]);
            String what = "with FAULT " + c[0] + " and SLIP " + c[1];
            tests.same("places lost " + what, x.read(0), c[2]);
            tests.same("state " + what, x.ofItem(0, 5), c[3]);
            tests.same("reckoned " + what, x.house(6), c[2] == 1 ? 1 : 0);
            tests.same("wrong " + what, x.ofItem(0, 9), 0);
        }
    }

    private void readReckons() {
        for (int place = 0; place < 12; place++) {
            Sortpocket x = with(1 << place);
            x.read(0);
            tests.same("reckoned at the place " + place, x.line(0, false), "123456700789");
            tests.same("RECKONED ones", x.house(6), 1);
        }
    }

    /** A slip of 9 to 0 at the place 11 is made up for at the place 5, which is lost. */
    private void readMayBeWrong() {
        Sortpocket x = with(0);
        x.machine(5, 5);
        tests.same("places lost", x.read(0), 1);
        tests.same("line", x.line(0, false), "123455700780");
        int[] due = {12, 3456, 789, 0, 0, 1, 12, 3455, 780, 1, 0, -1, 0, 0};
        for (int what = 0; what < due.length; what++) {
            tests.same("ofItem(0, " + what + ") of a wrong one", x.ofItem(0, what), due[what]);
        }
        tests.same("WRONG ones", x.house(5), 1);
    }

    /** LUCK 233 draws 91: just so much, as all is divided towards 0. */
    private void readDrawsTowardsZero() {
        Sortpocket x = with(1 << 11);
        x.machine(0, 9);
        tests.same("places lost", x.read(0), 1);
        tests.same("a slip at the place 7 alone", x.line(0, false), "123456710782");
    }

    private void readIsRefused() {
        Sortpocket x = with(0, 3, 0);
        x.read(0);
        x.read(1);
        tests.refuses(x, STATE, "read", 0);
        tests.refuses(x, STATE, "read", 1);
        tests.refuses(x, INDEX, "read", 3);
        tests.refuses(x, INDEX, "read", -1);
        tests.refuses(x, INDEX, "read", 40);
        x.key(1);
        tests.refuses(x, STATE, "read", 1);
    }

    private void readAll() {
        Sortpocket x = with(3, 0, 1, 3, 5);
        x.read(0);
        tests.same("rejected of those that were raw", x.readAll(), 2);
        int[] due = {2, 1, 1, 2, 2};
        for (int item = 0; item < due.length; item++) {
            tests.same("state of " + item, x.ofItem(item, 5), due[item]);
        }
        tests.same("nothing is raw", x.house(1), 0);
        tests.same("rejected of none", x.readAll(), 0);
        Sortpocket together = with(0, 0, 8);
        Sortpocket alone = with(0, 0, 8);
        together.machine(9, 9);
        alone.machine(9, 9);
        together.readAll();
        for (int item = 0; item < 3; item++) {
            alone.read(item);
        }
        tests.same("read item by item", together.digest(), alone.digest());
    }

    private void key() {
        int[] smudged = new int[9];
        java.util.Arrays.fill(smudged, ALL);
        Sortpocket x = with(smudged);
        x.readAll();
        for (int item = 0; item < 8; item++) {
            tests.same("both agree on " + item, x.key(item), false);
            tests.same("KEYED", x.ofItem(item, 5), 3);
            tests.same("by its line", x.line(item, false), "123456700789");
        }
        tests.same("nobody looked", x.house(7), 0);
        tests.same("the 99th digit", x.key(8), true);
        tests.same("KEYED by its own line", x.line(8, false), "123456700789");
        tests.same("somebody looked", x.house(7), 1);
        tests.same("KEYED ones", x.house(4), 9);
        tests.same("REJECTED ones", x.house(3), 0);
    }

    /** Slips at the places 4 and 9 count 7 and 3: the line is sound all the same. */
    private void keyersSlipAlike() {
        Sortpocket x = with(ALL, ALL, ALL);
        x.readAll();
        x.keyer(0, 5);
        x.keyer(1, 5);
        tests.same("the same, and sound", x.key(0), false);
        tests.same("keyed by a wrong line", x.line(0, false), "123466700889");
        tests.same("WRONG", x.ofItem(0, 9), 1);
        tests.same("DIFFERENCE by the amount as it is known", x.control(0, 889), 0);
        tests.same("the same, but not sound", x.key(1), true);
        tests.same("keyed by its own line", x.ofItem(1, 9), 0);
        x.keyer(1, 99);
        tests.same("not the same", x.key(2), true);
        tests.same("LOOKED", x.house(7), 2);
    }

    private void keyersSlipFromNine() {
        Sortpocket x = new Sortpocket();
        x.item(12, 3496, 889, 0, ALL);
        x.readAll();
        x.keyer(0, 5);
        x.keyer(1, 5);
        tests.same("the same, and sound", x.key(0), false);
        tests.same("9 becomes 0", x.ofItem(0, 7), 3406);
        tests.same("8 becomes 9", x.ofItem(0, 8), 989);
    }

    private void keyerTellsEveryAsItIsNow() {
        Sortpocket x = with(ALL, ALL);
        x.readAll();
        x.key(0);
        x.keyer(0, 25);
        x.keyer(1, 25);
        tests.same("the 13th to the 24th digit", x.key(1), false);
        tests.same("are keyed as they are", x.ofItem(1, 9), 0);
        Sortpocket y = with(ALL, ALL);
        y.readAll();
        y.key(0);
        y.keyer(1, 24);
        tests.same("the 24th digit of the second keyer", y.key(1), true);
    }

    private void keyIsRefused() {
        Sortpocket x = with(0, 0, 3);
        x.read(1);
        x.read(2);
        tests.refuses(x, STATE, "key", 0);
        tests.refuses(x, STATE, "key", 1);
        tests.refuses(x, INDEX, "key", 3);
        tests.refuses(x, INDEX, "key", -1);
        x.key(2);
        tests.refuses(x, STATE, "key", 2);
        tests.same("a refused call keys no digits", x.keyer(0, 24) + x.keyer(1, 24), 198);
        x.item(1, 1, 1, 1, ALL);
        x.read(3);
        tests.same("the 24th digit is a slip of both", x.key(3), true);
    }

    private void ofItem() {
        Sortpocket x = with(0, 0, ALL);
        x.read(0);
        x.end(12);
        x.design(2, 2);
        tests.same("its END", x.ofItem(0, 10), 0);
        tests.same("END of one that is not known", x.ofItem(1, 10), -1);
        tests.same("its PILE", x.ofItem(0, 11), 0);
        tests.same("PILE of one that is not known", x.ofItem(1, 11), -1);
        tests.same("not SORTED", x.ofItem(0, 12), 0);
        x.run(0);
        tests.same("its PILE then", x.ofItem(0, 11), 2);
        tests.same("SORTED", x.ofItem(0, 12), 1);
        tests.same("not PRESENTED", x.ofItem(0, 13), 0);
        x.present(0);
        x.present(0);
        tests.same("what was told the first time", x.ofItem(0, 13), 3);
        tests.refuses(x, INDEX, "ofItem", 3, 0);
        tests.refuses(x, INDEX, "ofItem", -1, 14);
        tests.refuses(x, BAD, "ofItem", 0, 14);
        tests.refuses(x, BAD, "ofItem", 0, -1);
    }

    private void line() {
        Sortpocket x = new Sortpocket();
        x.item(1, 2, 3, 0, 0);
        tests.same("with zeros ahead", x.line(0, true), "010002600003");
        tests.same("not known", x.line(0, false), "-");
        x.read(0);
        tests.same("known", x.line(0, false), "010002600003");
        tests.refuses(x, INDEX, "line", 1, true);
        tests.refuses(x, INDEX, "line", -1, false);
    }

    private void check() {
        Sortpocket x = new Sortpocket();
        int[][] cases = {{0, 0, 0, 0}, {99, 9999, 99999, 7}, {10, 0, 0, 9}, {1, 0, 0, 1}, {0, 1000, 0, 3},
            {0, 100, 0, 9}, {0, 10, 0, 1}, {0, 1, 0, 3}, {0, 0, 10000, 1}, {0, 0, 1000, 3}, {0, 0, 100, 9},
            {0, 0, 10, 1}, {0, 0, 1, 3}, {12, 3456, 789, 7}};
        for (int[] c : cases) {
            tests.same("check of " + c[0] + ", " + c[1] + ", " + c[2], x.check(c[0], c[1], c[2]), c[3]);
        }
        int[][] wrong = {{-1, 0, 0}, {100, 0, 0}, {0, -1, 0}, {0, 10000, 0}, {0, 0, -1}, {0, 0, 100000}};
        for (int[] w : wrong) {
            tests.refuses(x, BAD, "check", w[0], w[1], w[2]);
        }
    }

    private void blind() {
        Sortpocket x = new Sortpocket();
        x.item(16, 505, 50505, 0, 0);
        x.item(0, 0, 5, 0, 0);
        x.item(11, 1111, 11111, 0, 0);
        x.item(50, 1234, 56789, 0, 0);
        tests.same("neighbours that are 5 apart", x.blind(0), 2045);
        tests.same("the last two of all", x.blind(1), 1 << 10 | 1 << 5 | 1 << 6);
        tests.same("digits that are the same", x.blind(2), 0);
        tests.same("the first two of all", x.blind(3) & 1, 1);
        x.read(0);
        tests.same("that is so for those that are known, too", x.blind(0), 2045);
        tests.refuses(x, INDEX, "blind", 4);
        tests.refuses(x, INDEX, "blind", -1);
    }
}
