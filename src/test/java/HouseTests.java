/** Promises 25, 30 and 31: the house, whether all is sound, the checksum. */
final class HouseTests {
    private final Tests tests;

    HouseTests(Tests tests) {
        this.tests = tests;
    }

    void all() {
        house();
        houseIsRefused();
        isSound();
        digest();
        askingChangesNothing();
    }

    /** An object in which something of all kinds has come to pass. */
    private static Sortpocket busy() {
        Sortpocket x = new Sortpocket();
        int[][] items = {{1, 10, 100, 0, 0}, {1, 10, 200, 0, 1}, {2, 20, 300, 1, 3}, {3, 30, 400, 1, 4095},
            {4, 40, 500, 2, 0}, {2, 10, 100, 0, 0}, {1, 50, 600, 3, 12}};
        for (int[] i : items) {
            x.item(i[0], i[1], i[2], i[3], i[4]);
        }
        x.readAll();
        x.item(1, 1, 1, 7, 0);
        x.keyer(0, 5);
        x.keyer(1, 5);
        x.key(2);
        x.key(3);
        x.end(1);
        x.end(2);
        x.design(2, 2);
        x.run(0);
        x.stub(10, 100);
        x.stub(10, 101);
        x.present(0);
        x.present(1);
        x.control(0, 390);
        x.knock();
        return x;
    }

    private void house() {
        Sortpocket x = busy();
        int[] due = {8, 1, 4, 1, 2, 1, 1, 1, x.house(8), 2, 2, 5, 10, 6, 3, 2, 2, 1, 1};
        for (int what = 0; what < due.length; what++) {
            tests.same("house(" + what + ")", x.house(what), due[what]);
        }
    }

    private void houseIsRefused() {
        Sortpocket x = busy();
        for (int what : new int[] {-1, 19, Integer.MIN_VALUE, Integer.MAX_VALUE}) {
            tests.refuses(x, IllegalArgumentException.class, "house", what);
        }
    }

    private void isSound() {
        tests.same("a new one is sound", new Sortpocket().isSound(), true);
        Sortpocket x = busy();
        tests.same("sound with a plan", x.isSound(), true);
        x.runAll();
        tests.same("sound when all is sorted", x.isSound(), true);
        x.end(3);
        tests.same("sound with an END told later", x.isSound(), true);
        x.readAll();
        tests.same("sound with one KNOWN later", x.isSound(), true);
    }

    private void digest() {
        tests.same("digest of a new object", new Sortpocket().digest(), -8706818266997250355L);
        Sortpocket x = busy();
        long d = 7207;
        for (int what = 0; what <= 18; what++) {
            d = d * 31 + x.house(what);
        }
        for (int item = 0; item < 8; item++) {
            for (int what = 0; what <= 13; what++) {
                d = d * 31 + x.ofItem(item, what);
            }
        }
        for (int end = 0; end <= 2; end++) {
            for (int what = 0; what <= 2; what++) {
                d = d * 31 + x.ofEnd(end, what);
            }
        }
        for (int pile = 0; pile < x.house(11); pile++) {
            for (int what = 0; what <= 4; what++) {
                d = d * 31 + x.ofPile(pile, what);
            }
        }
        for (int batch = 0; batch <= 7; batch++) {
            for (int what = 0; what <= 4; what++) {
                d = d * 31 + x.ofBatch(batch, what);
            }
            for (int way = 0; way <= 3; way++) {
                d = d * 31 + x.hunt(batch, way, 0);
            }
        }
        for (int stub = 0; stub < 2; stub++) {
            d = d * 31 + x.ofStub(stub, 2);
        }
        for (int pockets = 2; pockets <= 6; pockets++) {
            d = d * 31 + x.would(pockets, false);
            d = d * 31 + x.would(pockets, true);
        }
        tests.same("digest of a busy one", x.digest(), d * 31 + 1);
    }

    private void askingChangesNothing() {
        Caller asked = new Caller(busy());
        String view = asked.view();
        tests.same("asked once more", asked.view(), view);
    }
}
