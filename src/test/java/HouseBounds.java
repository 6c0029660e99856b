import java.math.BigInteger;
import java.util.ArrayList;
import java.util.List;

/** The bounds of what tells of the whole: house(), isSound() and digest(), on nothing and on all that there may be. */
final class HouseBounds {
    private static final int ALL = 4095;

    private final Tests tests;

    HouseBounds(Tests tests) {
        this.tests = tests;
    }

    void all() {
        houseOfNothing();
        houseOfAllThatThereMayBe();
        lookedAndReckonedOfAll();
        digestOfNothing();
        digestWrapsAround();
        digestTellsEachChange();
        soundAllAlong();
        objectsShareNothing();
        askingChangesNothing();
        fiveHundredAndTwelveCalls();
    }

    private static Sortpocket withAll(int count, int smudged) {
        Sortpocket x = new Sortpocket();
        for (int item = 0; item < count; item++) {
            x.item(12, 3456, 789, 0, smudged);
        }
        return x;
    }

    private void house(String what, Sortpocket x, int... due) {
        for (int k = 0; k < due.length; k++) {
            tests.same("house(" + k + ") of " + what, x.house(k), due[k]);
        }
    }

    /** All is 0 at first, but for LUCK. */
    private void houseOfNothing() {
        house("a new object", new Sortpocket(), 0, 0, 0, 0, 0, 0, 0, 0, 17, 0, 0, 0, 0, 0, 0, 0, 0, 0, 0);
    }

    /** 40 ITEMS, 9 ENDS, 16 STUBS, 19 PILES: the most of all. */
    private void houseOfAllThatThereMayBe() {
        Sortpocket x = new Sortpocket();
        for (int bank = 0; bank < 9; bank++) {
            x.end(bank);
        }
        x.design(2, 2);
        for (int item = 0; item < 40; item++) {
            x.item(0, item % 16, 1 + item % 16, item % 8, 1);
        }
        house("40 RAW ones", x, 40, 40, 0, 0, 0, 0, 0, 0, 17, 9, 2, 19, 0, 0, 0, 0, 0, 0, 0);
        x.readAll();
        for (int stub = 0; stub < 16; stub++) {
            x.stub(stub, 1 + stub);
        }
        // 440 were drawn, 184 more than all that LUCK may be.
        int luck = x.house(8);
        house("40 READ ones", x, 40, 0, 40, 0, 0, 0, 40, 0, luck, 9, 2, 19, 360, 0, 0, 0, 16, 0, 0);
        tests.same("runs", x.runAll(), 9);
        for (int item = 0; item < 40; item++) {
            tests.same("present(" + item + ")", x.present(item), item < 16 ? 1 : 3);
        }
        house("40 SORTED ones", x, 40, 0, 40, 0, 0, 0, 40, 0, luck, 9, 2, 19, 360, 360, 180, 40, 16, 16, 0);
        tests.same("sound", x.isSound(), true);
        tests.same("LUCK", luck, luckAfter(440));
    }

    private static int luckAfter(int draws) {
        int luck = 17;
        for (int draw = 0; draw < draws % 256; draw++) {
            luck = Math.floorMod(61 * luck + 29, 256);
        }
        return luck;
    }

    private void lookedAndReckonedOfAll() {
        Sortpocket x = withAll(40, ALL);
        tests.same("all are REJECTED", x.readAll(), 40);
        x.keyer(0, 2);
        for (int item = 0; item < 40; item++) {
            tests.same("somebody LOOKED", x.key(item), true);
        }
        house("40 KEYED ones", x, 40, 0, 0, 0, 40, 0, 0, 40, 17, 0, 0, 0, 0, 0, 0, 0, 0, 0, 0);
        x.design(6, 40);
        house("one PILE", x, 40, 0, 0, 0, 40, 0, 0, 40, 17, 0, 6, 1, 0, 0, 0, 40, 0, 0, 0);
    }

    // ---- the checksum

    /** All that goes into it, asked by the calls of the face, in the order of the document. */
    private static List<Integer> values(Sortpocket x) {
        List<Integer> values = new ArrayList<>();
        for (int what = 0; what <= 18; what++) {
            values.add(x.house(what));
        }
        for (int item = 0; item < x.house(0); item++) {
            for (int what = 0; what <= 13; what++) {
                values.add(x.ofItem(item, what));
            }
        }
        for (int end = 0; end <= x.house(9); end++) {
            for (int what = 0; what <= 2; what++) {
                values.add(x.ofEnd(end, what));
            }
        }
        for (int pile = 0; pile < x.house(11); pile++) {
            for (int what = 0; what <= 4; what++) {
                values.add(x.ofPile(pile, what));
            }
        }
        for (int batch = 0; batch <= 7; batch++) {
            for (int what = 0; what <= 4; what++) {
                values.add(x.ofBatch(batch, what));
            }
            for (int way = 0; way <= 3; way++) {
                values.add(x.hunt(batch, way, 0));
            }
        }
        for (int stub = 0; stub < x.house(16); stub++) {
            values.add(x.ofStub(stub, 2));
        }
        for (int pockets = 2; pockets <= 6; pockets++) {
            values.add(x.would(pockets, false));
            values.add(x.would(pockets, true));
        }
        values.add(x.isSound() ? 1 : 0);
        return values;
    }

    /** "d starts with 7207; then d becomes d * 31 + v", without an end; the last 64 bits of that are due. */
    private static BigInteger whole(List<Integer> values) {
        BigInteger d = BigInteger.valueOf(7207);
        for (int value : values) {
            d = d.multiply(BigInteger.valueOf(31)).add(BigInteger.valueOf(value));
        }
        return d;
    }

    private void digestOfNothing() {
        List<Integer> values = values(new Sortpocket());
        // 19 of the house, 3 of OTHERS, 9 of each of 8 BATCHES, 10 of what would be, and the last one.
        tests.same("how many values", values.size(), 19 + 3 + 72 + 10 + 1);
        tests.same("of a new object", new Sortpocket().digest(), whole(values).longValue());
        tests.same("it is the same each time", new Sortpocket().digest(), -8706818266997250355L);
    }

    /** "which wraps around as a 64-bit integer": to more than 0 and to less, on as many values as there may be. */
    private void digestWrapsAround() {
        Sortpocket[] objects = {RefusalTests.withOne(), RefusalTests.busy(), RefusalTests.full()};
        int[] sizes = {19 + 14 + 6 + 5 + 72 + 1 + 11, 19 + 12 * 14 + 4 * 3 + 7 * 5 + 72 + 3 + 11,
            19 + 40 * 14 + 10 * 3 + 19 * 5 + 72 + 16 + 11};
        for (int k = 0; k < objects.length; k++) {
            List<Integer> values = values(objects[k]);
            tests.same("how many values", values.size(), sizes[k]);
            BigInteger whole = whole(values);
            tests.same("it is more than 64 bits", whole.bitLength() > 64, true);
            tests.same("what is left of it", objects[k].digest(), whole.longValue());
        }
        boolean isAbove = false;
        boolean isBelow = false;
        Sortpocket x = new Sortpocket();
        for (int knock = 0; knock < 64; knock++) {
            isAbove |= x.digest() > 0;
            isBelow |= x.digest() < 0;
            x.knock();
        }
        tests.same("it is more than 0, and less than 0", isAbove && isBelow, true);
    }

    private void digestTellsEachChange() {
        Sortpocket x = withAll(2, 0);
        long before = x.digest();
        tests.same("asked again", x.digest(), before);
        x.knock();
        BigInteger power = BigInteger.valueOf(31).pow(values(x).size() - 19);
        tests.same("REFUSED is 1 more", x.digest() - before, power.longValue());
    }

    // ---- all of it

    private void soundAllAlong() {
        Sortpocket x = new Sortpocket();
        tests.same("with nothing", x.isSound(), true);
        x.design(2, 2);
        tests.same("with a plan for nothing", x.isSound(), true);
        x.item(1, 1, 1, 0, 0);
        x.item(2, 1, 1, 0, ALL);
        tests.same("with RAW ones", x.isSound(), true);
        x.readAll();
        tests.same("with READ and REJECTED ones", x.isSound(), true);
        x.key(1);
        tests.same("with KEYED ones", x.isSound(), true);
        x.end(1);
        x.end(2);
        tests.same("with ENDS that are told later", x.isSound(), true);
        x.design(2, 2);
        tests.same("with a plan", x.isSound(), true);
        x.run(0);
        tests.same("half run", x.isSound(), true);
        x.runAll();
        tests.same("run", x.isSound(), true);
        x.stub(1, 1);
        x.stub(1, 1);
        x.present(0);
        tests.same("with one PAID", x.isSound(), true);
        x.present(0);
        tests.same("with one PRESENTED twice", x.isSound(), true);
        tests.same("full", RefusalTests.full().isSound(), true);
    }

    private void objectsShareNothing() {
        Sortpocket one = RefusalTests.full();
        String before = new Caller(one).view();
        Sortpocket other = new Sortpocket();
        tests.same("another one is new", other.digest(), new Sortpocket().digest());
        other.item(1, 1, 1, 1, ALL);
        other.readAll();
        other.keyer(0, 3);
        other.key(0);
        other.end(1);
        other.design(3, 3);
        other.runAll();
        other.knock();
        tests.same("the first is as it was", new Caller(one).view(), before);
    }

    /** "(nothing is changed)", by all that is only asked. */
    private void askingChangesNothing() {
        for (Sortpocket x : new Sortpocket[] {new Sortpocket(), RefusalTests.withOne(), RefusalTests.busy(), RefusalTests.full()}) {
            Caller caller = new Caller(x);
            String view = caller.view();
            for (int k = 0; k < 7; k++) {
                caller.call("check", k, k, k);
                caller.call("fewest", k);
                caller.call("inPile", k, k);
                caller.call("hunt", k, k % 4, k);
            }
            tests.same("asked once more", caller.view(), view);
        }
    }

    /** "An object is used for at most 512 calls": the last one answers as the first. */
    private void fiveHundredAndTwelveCalls() {
        Sortpocket x = new Sortpocket();
        for (int call = 1; call < 512; call++) {
            x.knock();
        }
        tests.same("the 512th call", x.knock(), 512);
        Sortpocket y = RefusalTests.full();
        long digest = y.digest();
        for (int call = 0; call < 400; call++) {
            tests.same("the digest once more", y.digest(), digest);
        }
    }
}
