import java.util.ArrayList;
import java.util.Arrays;
import java.util.LinkedHashSet;
import java.util.List;
import java.util.Set;
import java.util.function.Supplier;

/**
 * "A method that throws an exception changes nothing. If several exceptions apply, the one that is
 * named first is thrown." Each number that a method takes is tried at its bounds, one beyond them and
 * far beyond, alone and together with the others, on objects with nothing, with one, and with all.
 */
final class RefusalTests {
    private static final String BAD = "throws.IllegalArgumentException";
    private static final String STATE = "throws.IllegalStateException";
    private static final String INDEX = "throws.IndexOutOfBoundsException";
    private static final int MOST = Integer.MAX_VALUE;

    private final Tests tests;
    // Of what there is how many, in the objects that are tried.
    private String state;
    private Supplier<Sortpocket> maker;
    private Caller tried;

    RefusalTests(Tests tests) {
        this.tests = tests;
    }

    void all() {
        in("a new object", Sortpocket::new);
        methods(0, 0, 0, 0);
        in("an object with one of each", RefusalTests::withOne);
        methods(1, 1, 1, 1);
        in("a busy object", RefusalTests::busy);
        methods(12, 3, 7, 3);
        in("a full object", RefusalTests::full);
        methods(40, 9, 19, 16);
        wrongTimes();
        wrongTimesOfPlans();
        argumentsComeAheadOfStates();
        elementsComeAheadOfArguments();
    }

    // ---- the objects that are tried

    static Sortpocket withOne() {
        Sortpocket x = new Sortpocket();
        x.item(0, 0, 1, 0, 0);
        x.design(2, 2);
        x.end(0);
        x.stub(0, 1);
        return x;
    }

    /** 12 ITEMS: 0 to 2 READ, 3 and 4 REJECTED, 5 KEYED, 6 to 11 RAW; 3 ENDS, 7 PILES, 3 STUBS. */
    static Sortpocket busy() {
        Sortpocket x = new Sortpocket();
        int[] smudged = {0, 1, 2048, 3, 4095, 5, 0, 1, 0, 6, 0, 0};
        for (int item = 0; item < 12; item++) {
            x.item(item % 4, item, 100 + item, item % 8, smudged[item]);
        }
        for (int item = 0; item < 6; item++) {
            x.read(item);
        }
        x.keyer(0, 7);
        x.keyer(1, 11);
        x.key(5);
        x.machine(9, 5);
        x.end(0);
        x.end(1);
        x.end(2);
        x.design(2, 3);
        x.run(0);
        x.control(0, 77);
        x.stub(0, 100);
        x.stub(1, 5);
        x.stub(5, 105);
        x.present(0);
        x.knock();
        return x;
    }

    /** As much of all as there may be; the ITEMS of all states. */
    static Sortpocket full() {
        Sortpocket x = new Sortpocket();
        for (int item = 0; item < 40; item++) {
            x.item(item % 12, item * 250, 99999 - item, item % 8, item % 5 == 1 ? 4095 : 0);
        }
        for (int item = 0; item < 30; item++) {
            x.read(item);
        }
        x.keyer(0, 2);
        x.key(1);
        x.key(6);
        x.machine(20, 20);
        for (int bank = 0; bank < 9; bank++) {
            x.end(bank);
        }
        x.design(2, 2);
        x.run(0);
        for (int stub = 0; stub < 16; stub++) {
            x.stub(stub * 250, 99999 - stub);
        }
        x.present(0);
        x.present(2);
        return x;
    }

    private void in(String name, Supplier<Sortpocket> make) {
        state = name;
        maker = make;
        tried = new Caller(make.get());
    }

    // ---- the bounds of all that is told

    private static Object[] bad(int least, int most) {
        return new Object[] {least, most, BAD};
    }

    private static Object[] index(int least, int most) {
        return new Object[] {least, most, INDEX};
    }

    private static Object[] either() {
        return new Object[] {false, true};
    }

    private void methods(int items, int ends, int piles, int stubs) {
        bounds("item", bad(0, 99), bad(0, 9999), bad(1, 99999), bad(0, 7), bad(0, 4095));
        bounds("machine", bad(0, 20), bad(0, 20));
        bounds("keyer", index(0, 1), bad(2, 99));
        bounds("read", index(0, items - 1));
        bounds("key", index(0, items - 1));
        bounds("end", bad(0, 99));
        bounds("design", bad(2, 6), bad(2, 40));
        bounds("run", index(0, piles - 1));
        bounds("control", index(0, 7), bad(0, 9999999));
        bounds("stub", bad(0, 9999), bad(1, 99999));
        bounds("present", index(0, items - 1));
        bounds("ofItem", index(0, items - 1), bad(0, 13));
        bounds("line", index(0, items - 1), either());
        bounds("ofEnd", index(0, ends), bad(0, 2));
        bounds("code", index(0, ends));
        bounds("ofPile", index(0, piles - 1), bad(0, 4));
        bounds("inPile", index(0, piles - 1), bad(0, MOST));
        bounds("ofBatch", index(0, 7), bad(0, 4));
        bounds("hunt", index(0, 7), bad(0, 3), bad(0, MOST));
        bounds("ofStub", index(0, stubs - 1), bad(0, 2));
        bounds("house", bad(0, 18));
        bounds("check", bad(0, 99), bad(0, 9999), bad(0, 99999));
        bounds("blind", index(0, items - 1));
        bounds("would", bad(2, 6), either());
        bounds("fewest", bad(0, MOST));
        String untouched = later(new Caller(maker.get()));
        tests.same("what " + state + " does after all calls that were refused", later(tried), untouched);
    }

    private void bounds(String name, Object[]... bounds) {
        List<Object[]> rows = new ArrayList<>();
        rows.add(new Object[0]);
        for (Object[] bound : bounds) {
            List<Object[]> longer = new ArrayList<>();
            for (Object[] row : rows) {
                for (Object value : valuesOf(bound)) {
                    Object[] more = Arrays.copyOf(row, row.length + 1);
                    more[row.length] = value;
                    longer.add(more);
                }
            }
            rows = longer;
        }
        String before = tried.call("digest");
        for (Object[] row : rows) {
            String due = dueOf(bounds, row);
            String what = name + Arrays.toString(row) + " of " + state;
            if (due.isEmpty()) {
                String got = new Caller(maker.get()).call(name, row);
                tests.same(what + " is within the bounds", got.equals(BAD) || got.equals(INDEX), false);
            } else {
                tests.same(what, tried.call(name, row), due);
                tests.same("digest after " + what, tried.call("digest"), before);
            }
        }
    }

    /** Both bounds, what is one beyond them, and the ends of all numbers. */
    private static Set<Object> valuesOf(Object[] bound) {
        Set<Object> values = new LinkedHashSet<>();
        if (bound[0] instanceof Boolean) {
            values.addAll(Arrays.asList(bound));
            return values;
        }
        int least = (Integer) bound[0];
        int most = (Integer) bound[1];
        values.add(least);
        values.add(most);
        values.add(least - 1);
        values.add(most == MOST ? MOST : most + 1);
        values.add(Integer.MIN_VALUE);
        values.add(MOST);
        return values;
    }

    private static String dueOf(Object[][] bounds, Object[] row) {
        for (int k = 0; k < row.length; k++) {
            if (row[k] instanceof Integer) {
                int value = (Integer) row[k];
                if (value < (Integer) bounds[k][0] || value > (Integer) bounds[k][1]) {
                    return (String) bounds[k][2];
                }
            }
        }
        return "";
    }

    /** What tells FAULT, SLIP, EVERY, the digits keyed, CAP and all else that can't be asked at once. */
    private static String later(Caller x) {
        StringBuilder text = new StringBuilder(x.view());
        x.call("item", 10, 20, 30, 4, 0);
        x.call("item", 10, 20, 30, 4, 4095);
        text.append(x.call("readAll")).append(x.view());
        text.append(x.call("machine", 0, 0));
        keyOne(x, text, 0);
        keyOne(x, text, 1);
        for (int item = 0; item < 40; item++) {
            text.append(x.call("key", item)).append(x.call("line", item, false));
        }
        text.append(x.call("keyer", 0, 2)).append(x.call("keyer", 1, 2));
        text.append(x.call("runAll")).append(x.view());
        text.append(x.call("end", 77)).append(x.call("stub", 20, 30));
        for (int item = 0; item < 40; item++) {
            text.append(x.call("present", item));
        }
        text.append(x.call("control", 4, 1)).append(x.call("knock")).append(x.call("design", 3, 4));
        return text.append(x.view()).toString();
    }

    /** Keys an ITEM with an EVERY that comes just behind its digits: one digit too many would be a slip. */
    private static void keyOne(Caller x, StringBuilder text, int keyer) {
        int every = 12 * Integer.parseInt(x.call("house", 4)) + 13;
        text.append(x.call("keyer", keyer, every)).append(x.call("keyer", 1 - keyer, 99));
        for (int item = 0; item < Integer.parseInt(x.call("house", 0)); item++) {
            if (x.call("ofItem", item, 5).equals("2")) {
                text.append(x.call("key", item));
                return;
            }
        }
    }

    // ---- what comes at a wrong time

    /** The call is refused, and the object does later what one does that was never asked. */
    private void refused(String due, String name, Object... args) {
        String what = name + Arrays.toString(args) + " of " + state;
        tests.same(what, tried.call(name, args), due);
        tests.same("what comes after " + what, later(tried), later(new Caller(maker.get())));
        tried = new Caller(maker.get());
    }

    private void wrongTimes() {
        in("a busy object", RefusalTests::busy);
        for (int item = 0; item < 12; item++) {
            boolean isRaw = item >= 6;
            boolean isRejected = item == 3 || item == 4;
            if (!isRaw) {
                refused(STATE, "read", item);
            }
            if (!isRejected) {
                refused(STATE, "key", item);
            }
            if (isRaw || isRejected) {
                refused(STATE, "present", item);
            }
        }
        for (int bank = 0; bank < 3; bank++) {
            refused(STATE, "end", bank);
        }
        in("a full object", RefusalTests::full);
        refused(STATE, "item", 0, 0, 1, 0, 0);
        refused(STATE, "item", 99, 9999, 99999, 7, 4095);
        refused(STATE, "end", 9);
        refused(STATE, "end", 8);
        refused(STATE, "end", 0);
        refused(STATE, "stub", 0, 1);
        refused(STATE, "stub", 9999, 99999);
    }

    private void wrongTimesOfPlans() {
        in("a new object", Sortpocket::new);
        refused(INDEX, "run", 0);
        refused(STATE, "runAll");
        in("an object with one of each", RefusalTests::withOne);
        refused(STATE, "run", 0);
        in("a busy object", RefusalTests::busy);
        Caller asked = new Caller(busy());
        for (int pile = 0; pile < 7; pile++) {
            if (!asked.call("ofPile", pile, 4).equals("-1")) {
                refused(STATE, "run", pile);
            }
        }
        tests.same("its PILES", asked.call("house", 11), "7");
    }

    private void argumentsComeAheadOfStates() {
        in("a full object", RefusalTests::full);
        refused(BAD, "item", 100, 0, 1, 0, 0);
        refused(BAD, "item", 0, 0, 0, 0, 0);
        refused(BAD, "item", 0, 0, 1, 0, 4096);
        refused(BAD, "end", 100);
        refused(BAD, "end", -1);
        refused(BAD, "stub", 10000, 1);
        refused(BAD, "stub", 0, 0);
    }

    private void elementsComeAheadOfArguments() {
        in("a busy object", RefusalTests::busy);
        refused(INDEX, "keyer", 2, 100);
        refused(INDEX, "control", 8, 10000000);
        refused(INDEX, "ofItem", 12, 14);
        refused(INDEX, "ofEnd", 4, 3);
        refused(INDEX, "ofPile", 7, 5);
        refused(INDEX, "inPile", 7, -1);
        refused(INDEX, "ofBatch", 8, 5);
        refused(INDEX, "hunt", 8, 4, -1);
        refused(INDEX, "ofStub", 3, 3);
    }
}
