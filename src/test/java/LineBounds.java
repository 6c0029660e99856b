import java.util.Set;
import java.util.TreeSet;

/** Parts 1 to 3 of the document, a test for each sentence that names a bound of LINES, LUCK or the desk. */
final class LineBounds {
    private static final int ALL = 4095;
    private static final int[] WEIGHTS = {3, 7, 1, 3, 7, 1, 3, 7, 1, 3, 7, 1};
    private static final String OWN = "123456700789";

    private final Tests tests;

    LineBounds(Tests tests) {
        this.tests = tests;
    }

    void all() {
        eachWithZerosAhead();
        eachDigitCountsByItsPlace();
        aLineIsSoundByTen();
        itemsAreAtMostForty();
        allPlacesMayBeSmudged();
        rawAtFirst();
        knownIsReadOrKeyed();
        wrongIsAnotherLine();
        luckAtFirst();
        luckGoesRoundAt256();
        belowFault();
        hundredLessSlipOrMore();
        faultAndSlipTogether();
        faultsInAllThatMayBeDrawn();
        slipsInAllThatMayBeDrawn();
        aSlipOfNineIsNought();
        notMoreThanOnePlace();
        smudgedAndFaulty();
        notSoundThoughAllIsMadeOut();
        soundThoughItSlipped();
        readAllOfNoneAndOfAll();
        everyAtFirst();
        everyThDigit();
        everyThDigitOfBoth();
        aKeyerSlipsFromNine();
        digitsOfAllThatWasEverKeyed();
        everyAsItIsNow();
        differentThoughSound();
        blindAtTheFirstAndTheLastPlace();
        blindOfItsOwnLine();
    }

    private static Sortpocket with(int... smudged) {
        Sortpocket x = new Sortpocket();
        for (int places : smudged) {
            x.item(12, 3456, 789, 0, places);
        }
        return x;
    }

    private static Sortpocket withAll(int count, int smudged) {
        int[] places = new int[count];
        java.util.Arrays.fill(places, smudged);
        return with(places);
    }

    /** An object in which so many were drawn, all with FAULT and SLIP 0; 21 ITEMS at most. */
    private static Sortpocket drawn(int count) {
        Sortpocket x = new Sortpocket();
        for (int left = count; left > 0; left -= 12) {
            x.item(12, 3456, 789, 0, left >= 12 ? 0 : ALL >> left);
        }
        x.readAll();
        return x;
    }

    private static int sum(String line) {
        int sum = 0;
        for (int place = 0; place < 12; place++) {
            sum += WEIGHTS[place] * (line.charAt(place) - '0');
        }
        return sum;
    }

    // ---- part 1

    /** "0 and 1 a BANK (0 to 99), 2 to 5 an ACCOUNT (0 to 9999), ... 7 to 11 an AMOUNT ...; each with zeros ahead." */
    private void eachWithZerosAhead() {
        int[][] items = {{0, 0, 1}, {0, 0, 99999}, {0, 9999, 1}, {99, 0, 1}, {99, 9999, 99999}, {9, 999, 9999},
            {10, 1000, 10000}, {1, 2, 3}};
        String[] due = {"000000300001", "000000399999", "009999700001", "990000300001", "999999799999", "090999009999",
            "101000310000", "010002600003"};
        for (int k = 0; k < items.length; k++) {
            Sortpocket x = new Sortpocket();
            x.item(items[k][0], items[k][1], items[k][2], 0, 0);
            tests.same("line of " + due[k], x.line(0, true), due[k]);
            tests.same("sum of " + due[k] + " by 10", sum(due[k]) % 10, 0);
            for (int what = 0; what < 3; what++) {
                tests.same("ofItem(0, " + what + ") of " + due[k], x.ofItem(0, what), items[k][what]);
            }
            tests.same("check of " + due[k], x.check(items[k][0], items[k][1], items[k][2]), due[k].charAt(6) - '0');
            x.read(0);
            for (int what = 0; what < 3; what++) {
                tests.same("KNOWN: " + what + " of " + due[k], x.ofItem(0, 6 + what), items[k][what]);
            }
        }
    }

    /** "The digit at the PLACE k counts 3 times, if k modulo 3 is 0, 7 times, if that is 1, once, if it is 2." */
    private void eachDigitCountsByItsPlace() {
        Sortpocket x = new Sortpocket();
        Set<Integer> checks = new TreeSet<>();
        for (int place = 0; place < 12; place++) {
            for (int digit = 0; digit <= 9 && place != 6; digit++) {
                StringBuilder line = new StringBuilder("000000000000");
                line.setCharAt(place, (char) ('0' + digit));
                int bank = Integer.parseInt(line.substring(0, 2));
                int account = Integer.parseInt(line.substring(2, 6));
                int amount = Integer.parseInt(line.substring(7));
                // 3 times 7 is 1 more than 20: so the CHECK is 7 times what is missing to 10.
                int due = (10 - WEIGHTS[place] * digit % 10) * 7 % 10;
                tests.same("CHECK of " + line, x.check(bank, account, amount), due);
                checks.add(due);
            }
        }
        tests.same("each digit is a CHECK", checks.size(), 10);
    }

    /** "A LINE is SOUND, if the sum ... can be divided by 10": 0 and 10 can, 9 and 11 can not. */
    private void aLineIsSoundByTen() {
        Sortpocket x = new Sortpocket();
        tests.same("sum 0", x.check(0, 0, 0), 0);
        tests.same("sum 7 and 3", x.check(1, 0, 0), 1);
        tests.same("sum 1 and 9", x.check(0, 1000, 0), 3);
        tests.same("sum 9 and 21", x.check(0, 0, 9), 7);
        tests.same("sum 27 and 3", x.check(0, 900, 0), 1);
        tests.same("sum 49 and 21", x.check(7, 0, 0), 7);
    }

    /** "ITEMS: at most 40, numbered from 0". */
    private void itemsAreAtMostForty() {
        Sortpocket x = new Sortpocket();
        for (int item = 0; item < 40; item++) {
            tests.refuses(x, IndexOutOfBoundsException.class, "ofItem", item, 0);
            tests.same("number of the ITEM", x.item(item, item, item + 1, 0, 0), item);
            tests.same("ITEMS", x.house(0), item + 1);
        }
        tests.refuses(x, IllegalStateException.class, "item", 0, 0, 1, 0, 0);
        for (int item = 0; item < 40; item++) {
            tests.same("it stays as it was told", x.ofItem(item, 0), item);
        }
        tests.same("all are read", x.readAll() + x.house(2), 40);
    }

    /** "and a set of PLACES that are SMUDGED": the PLACES 0 to 11, none, one, or all. */
    private void allPlacesMayBeSmudged() {
        for (int places = 0; places <= ALL; places++) {
            if (Integer.bitCount(places) <= 1 || places >= ALL - 2) {
                Sortpocket x = with(places);
                tests.same("SMUDGED", x.ofItem(0, 4), places);
                tests.same("places lost of " + places, x.read(0), Integer.bitCount(places));
                tests.same("it stays SMUDGED", x.ofItem(0, 4), places);
            }
        }
    }

    /** "An ITEM is RAW (at first)". */
    private void rawAtFirst() {
        Sortpocket x = with(0, ALL);
        for (int item = 0; item < 2; item++) {
            int[] due = {12, 3456, 789, 0, item * ALL, 0, -1, -1, -1, 0, -1, -1, 0, 0};
            for (int what = 0; what < due.length; what++) {
                tests.same("ofItem(.., " + what + ") at first", x.ofItem(item, what), due[what]);
            }
            tests.same("not KNOWN", x.line(item, false), "-");
        }
        tests.same("RAW ones", x.house(1), 2);
    }

    /** "one that is READ or KEYED is KNOWN": one that is RAW or REJECTED is not. */
    private void knownIsReadOrKeyed() {
        Sortpocket x = with(0, 0, ALL, ALL);
        x.read(1);
        x.read(2);
        x.read(3);
        x.key(3);
        boolean[] isKnown = {false, true, false, true};
        for (int item = 0; item < 4; item++) {
            tests.same("state", x.ofItem(item, 5), item);
            tests.same("BANK as it is KNOWN", x.ofItem(item, 6), isKnown[item] ? 12 : -1);
            tests.same("ACCOUNT so", x.ofItem(item, 7), isKnown[item] ? 3456 : -1);
            tests.same("AMOUNT so", x.ofItem(item, 8), isKnown[item] ? 789 : -1);
            tests.same("its END", x.ofItem(item, 10), isKnown[item] ? 0 : -1);
            tests.same("line", x.line(item, false), isKnown[item] ? OWN : "-");
            tests.same("not WRONG", x.ofItem(item, 9), 0);
        }
        for (int what = 1; what <= 4; what++) {
            tests.same("house(" + what + ")", x.house(what), 1);
        }
        tests.same("KNOWN ones of the BATCH", x.ofBatch(0, 3), 2);
        tests.same("DIFFERENCE", x.ofBatch(0, 1), -2 * 789);
        tests.same("VOLUME of OTHERS", x.ofEnd(0, 1), 2);
    }

    /** "which may be another one than its own: then it is WRONG": also if BANK and AMOUNT are right. */
    private void wrongIsAnotherLine() {
        Sortpocket x = drawn(9);
        x.item(12, 3456, 789, 0, 1 << 6);
        // The third that is drawn then is 95, at the place 2, and no other one is 94 or more.
        x.machine(0, 6);
        tests.same("places lost", x.read(1), 1);
        tests.same("line", x.line(1, false), "124456000789");
        tests.same("WRONG", x.ofItem(1, 9), 1);
        tests.same("BANK is right", x.ofItem(1, 6), 12);
        tests.same("ACCOUNT is not", x.ofItem(1, 7), 4456);
        tests.same("AMOUNT is right", x.ofItem(1, 8), 789);
        tests.same("WRONG ones", x.house(5), 1);
        x.machine(0, 0);
        x.item(12, 3456, 789, 0, 1 << 6);
        x.read(2);
        tests.same("its own line, as the CHECK is RECKONED", x.ofItem(2, 9), 0);
        tests.same("WRONG ones as before", x.house(5), 1);
    }

    // ---- part 2

    /** "LUCK is 17 at first"; FAULT and SLIP are 0. */
    private void luckAtFirst() {
        Sortpocket x = drawn(0);
        tests.same("LUCK at first", x.house(8), 17);
        tests.same("FAULT at first", x.machine(0, 0), 0);
        tests.same("RECKONED at first", x.house(6), 0);
        int[] due = {17, 42, 31, 128, 157, 134, 11, 188, 233};
        for (int count = 0; count < due.length; count++) {
            tests.same("LUCK after " + count, drawn(count).house(8), due[count]);
        }
    }

    /** "LUCK becomes (61 * LUCK + 29) modulo 256": it has been each of 0 to 255 before it is 17 again. */
    private void luckGoesRoundAt256() {
        Set<Integer> seen = new TreeSet<>();
        int before = 17;
        for (int count = 1; count <= 256; count++) {
            int luck = drawn(count).house(8);
            tests.same("LUCK after " + count, luck, Math.floorMod(61 * before + 29, 256));
            seen.add(luck);
            before = luck;
        }
        tests.same("LUCK after 256", before, 17);
        tests.same("LUCK comes to 0 to 255", seen.size(), 256);
        tests.same("LUCK comes to 0", drawn(131).house(8), 0);
        tests.same("LUCK comes to 255", drawn(162).house(8), 255);
        tests.same("LUCK goes round", drawn(257).house(8), 42);
    }

    /** "LUCK * n / 256 is drawn", divided towards 0; "below FAULT it can not be made out". */
    private void belowFault() {
        int[][] lastLost = {{0, -1}, {1, 2}, {2, 5}, {19, 48}, {20, 51}};
        for (int[] fault : lastLost) {
            for (int count = 0; count < 256; count++) {
                Sortpocket x = drawn(count);
                int item = x.item(12, 3456, 789, 0, ALL - 1);
                x.machine(fault[0], 20 - fault[0]);
                int lost = x.read(item);
                int luck = x.house(8);
                tests.same("FAULT " + fault[0] + " with LUCK " + luck, lost, luck <= fault[1] ? 12 : 11);
            }
        }
    }

    /** "with 100 - SLIP or more the digit that is 1 more is read". */
    private void hundredLessSlipOrMore() {
        int[][] firstSlips = {{0, 256}, {1, 254}, {2, 251}, {19, 208}, {20, 205}};
        for (int[] slip : firstSlips) {
            for (int count = 0; count < 256; count++) {
                int luck = drawn(count + 1).house(8);
                Sortpocket x = drawn(count);
                int item = x.item(12, 3456, 789, 0, 1 << 11);
                x.machine(0, slip[0]);
                tests.same("places lost", x.read(item), 1);
                String what = "SLIP " + slip[0] + " with LUCK " + luck;
                tests.same(what, x.line(item, false).charAt(0), luck >= slip[1] ? '2' : '1');
                tests.same("SOUND by what is RECKONED: " + what, sum(x.line(item, false)) % 10, 0);
            }
        }
    }

    /** FAULT and SLIP 20: 0 to 19 is lost, 20 to 79 is read as it is, 80 to 99 is 1 more. */
    private void faultAndSlipTogether() {
        for (int count = 0; count < 256; count++) {
            int luck = drawn(count + 1).house(8);
            Sortpocket x = drawn(count);
            int item = x.item(12, 3456, 789, 0, ALL - 1);
            x.machine(20, 20);
            tests.same("lost by LUCK " + luck, x.read(item), luck * 100 / 256 < 20 ? 12 : 11);
        }
        Sortpocket x = with(0);
        x.machine(17, 5);
        tests.same("16, 12 and 4 are below 17", x.read(0), 3);
        Sortpocket y = with(3);
        y.machine(20, 20);
        tests.same("12, 16 and 4 are below 20, and two are SMUDGED", y.read(0), 5);
    }

    /** Of the 256 that LUCK may be so many draw less than FAULT. */
    private void faultsInAllThatMayBeDrawn() {
        for (int fault = 0; fault <= 20; fault++) {
            Sortpocket x = withAll(21, 0);
            x.item(12, 3456, 789, 0, ALL >> 4);
            x.machine(fault, 0);
            int lost = -8;
            for (int item = 0; item < 22; item++) {
                lost += x.read(item);
            }
            tests.same("lost of 256 with FAULT " + fault, lost, (fault * 256 + 99) / 100);
        }
    }

    /** Of the 256 that LUCK may be so many draw 100 - SLIP or more. */
    private void slipsInAllThatMayBeDrawn() {
        for (int slip = 0; slip <= 20; slip++) {
            Sortpocket x = withAll(24, 1 << 11);
            x.machine(0, slip);
            tests.same("all are READ", x.readAll(), 0);
            tests.same("all are RECKONED", x.house(6), 24);
            int slips = 0;
            for (int draw = 0; draw < 256; draw++) {
                int place = draw % 11;
                slips += x.line(draw / 11, false).charAt(place) - OWN.charAt(place);
            }
            tests.same("slips of 256 with SLIP " + slip, slips, slip * 256 / 100);
        }
    }

    /** "the digit that is 1 more is read (0 of 9)", at each PLACE. */
    private void aSlipOfNineIsNought() {
        // The draw 162 is of LUCK 255: the only one of 99 from the draw 150 on up to 173.
        for (int place = 0; place < 11; place++) {
            for (int digit = 0; digit <= 9; digit++) {
                String own = "111111111111".substring(0, place) + digit + "111111111111".substring(place + 1);
                Sortpocket x = drawn(161 - place);
                int item = x.item(Integer.parseInt(own.substring(0, 2)), Integer.parseInt(own.substring(2, 6)),
                    Integer.parseInt(own.substring(7)), 0, 1 << 11);
                x.machine(0, 1);
                x.read(item);
                int before = x.line(item, true).charAt(place) - '0';
                tests.same(before + " slips at the place " + place, x.line(item, false).charAt(place) - '0',
                    before == 9 ? 0 : before + 1);
            }
        }
    }

    /** "If one PLACE just can not be made out, ... If not more than one can not be made out ...; otherwise REJECTED." */
    private void notMoreThanOnePlace() {
        for (int lost = 0; lost <= 12; lost++) {
            for (int places : new int[] {(1 << lost) - 1, ALL - (ALL >> lost)}) {
                Sortpocket x = with(places);
                tests.same("lost", x.read(0), lost);
                tests.same("state with " + lost + " lost", x.ofItem(0, 5), lost <= 1 ? 1 : 2);
                tests.same("RECKONED with " + lost + " lost", x.house(6), lost == 1 ? 1 : 0);
                tests.same("line with " + lost + " lost", x.line(0, false), lost <= 1 ? OWN : "-");
                tests.same("drawn", x.house(8), drawn(12 - lost).house(8));
            }
        }
    }

    /** One that is SMUDGED, and one that is below FAULT: two can not be made out. */
    private void smudgedAndFaulty() {
        int[][] cases = {{5, 1, 2}, {5, 1 << 11, 2}, {4, 1 << 11, 1}, {5, 0, 1}, {5, 1 << 5, 1}};
        for (int[] c : cases) {
            Sortpocket x = with(c[1]);
            x.machine(c[0], 0);
            // The sixth that is drawn is 4; 1 << 5 moves that to the place 6.
            int due = c[1] == 1 << 5 ? 2 : c[2];
            tests.same("lost with FAULT " + c[0] + " and SMUDGED " + c[1], x.read(0), due);
            tests.same("state", x.ofItem(0, 5), due == 1 ? 1 : 2);
            tests.same("RECKONED", x.house(6), due == 1 ? 1 : 0);
        }
    }

    /** "and the LINE is SOUND then, the ITEM is READ by it; otherwise REJECTED." */
    private void notSoundThoughAllIsMadeOut() {
        Sortpocket x = with(0);
        x.machine(0, 5);
        tests.same("nothing is lost", x.read(0), 0);
        tests.same("a slip of 95 makes it not SOUND", x.ofItem(0, 5), 2);
        tests.same("nothing is RECKONED", x.house(6), 0);
        tests.same("REJECTED ones", x.house(3), 1);
        tests.same("not KNOWN", x.line(0, false), "-");
        tests.same("not WRONG", x.ofItem(0, 9), 0);
        Sortpocket y = with(0);
        y.machine(0, 4);
        tests.same("96 is more than 95", y.read(0) + y.ofItem(0, 5), 1);
    }

    /** The draws 49 and 56 are 97: both slip, at PLACES that count 3 and 7 times, and the LINE is SOUND. */
    private void soundThoughItSlipped() {
        Sortpocket x = drawn(48);
        int item = x.item(12, 3456, 789, 0, 0);
        x.machine(0, 3);
        tests.same("nothing is lost", x.read(item), 0);
        tests.same("READ", x.ofItem(item, 5), 1);
        tests.same("by another line", x.line(item, false), "223456710789");
        tests.same("WRONG", x.ofItem(item, 9), 1);
        tests.same("nothing is RECKONED", x.house(6), 0);
        Sortpocket y = drawn(48);
        item = y.item(12, 3456, 789, 0, 0);
        y.machine(0, 2);
        tests.same("97 is below 98", y.read(item) + y.ofItem(item, 9), 0);
    }

    /** readAll(): "how many became REJECTED", of none, of none that is RAW, of all. */
    private void readAllOfNoneAndOfAll() {
        tests.same("of none", new Sortpocket().readAll(), 0);
        tests.same("of 40", withAll(40, 3).readAll(), 40);
        Sortpocket x = withAll(39, 3);
        tests.same("of 39", x.readAll(), 39);
        tests.same("of none that is RAW", x.readAll(), 0);
        x.item(12, 3456, 789, 0, 1);
        tests.same("of one that is READ", x.readAll(), 0);
        tests.same("REJECTED ones", x.house(3), 39);
        tests.same("READ ones", x.house(2), 1);
    }

    // ---- part 3

    /** "two KEYERS, 0 and 1, each with an EVERY (2 to 99; 99 at first)". */
    private void everyAtFirst() {
        Sortpocket x = new Sortpocket();
        tests.same("EVERY of 0 at first", x.keyer(0, 2), 99);
        tests.same("EVERY of 1 at first", x.keyer(1, 99), 99);
        tests.same("EVERY of 0", x.keyer(0, 99), 2);
        tests.same("EVERY of 1", x.keyer(1, 2), 99);
        tests.same("EVERY of 0 once more", x.keyer(0, 98), 99);
        tests.same("EVERY of 1 once more", x.keyer(1, 3), 2);
    }

    private static boolean hasMultiple(int every, int from, int to) {
        return to / every > (from - 1) / every;
    }

    /** "each EVERY-th digit is 1 more": the first, the last, or none of the 12 of an ITEM. */
    private void everyThDigit() {
        for (int keyer = 0; keyer <= 1; keyer++) {
            for (int every = 2; every <= 99; every++) {
                Sortpocket x = withAll(8, ALL);
                x.readAll();
                x.keyer(keyer, every);
                int looked = 0;
                for (int item = 0; item < 8; item++) {
                    boolean due = hasMultiple(every, 12 * item + 1, 12 * item + 12);
                    looked += due ? 1 : 0;
                    tests.same("EVERY " + every + " of the KEYER " + keyer + " at " + item, x.key(item), due);
                    tests.same("its own line", x.line(item, false), OWN);
                }
                tests.same("LOOKED", x.house(7), looked);
                tests.same("KEYED ones", x.house(4), 8);
            }
        }
        Sortpocket x = withAll(9, ALL);
        x.readAll();
        x.keyer(0, 98);
        for (int item = 0; item < 9; item++) {
            tests.same("98 and 99 digits, of " + item, x.key(item), item == 8);
        }
    }

    /** "If both have keyed the same, and that is SOUND, the ITEM is KEYED by it", for each EVERY. */
    private void everyThDigitOfBoth() {
        for (int every = 2; every <= 99; every++) {
            Sortpocket x = withAll(20, ALL);
            x.readAll();
            x.keyer(0, every);
            x.keyer(1, every);
            int looked = 0;
            for (int item = 0; item < 20; item++) {
                StringBuilder copy = new StringBuilder(OWN);
                for (int place = 0; place < 12; place++) {
                    boolean slips = hasMultiple(every, 12 * item + place + 1, 12 * item + place + 1);
                    copy.setCharAt(place, slips ? oneMore(OWN.charAt(place)) : OWN.charAt(place));
                }
                boolean isSound = sum(copy.toString()) % 10 == 0;
                String what = "EVERY " + every + " of both at " + item;
                looked += isSound ? 0 : 1;
                tests.same(what, x.key(item), !isSound);
                tests.same("LOOKED: " + what, x.house(7), looked);
                tests.same("line: " + what, x.line(item, false), isSound ? copy.toString() : OWN);
                tests.same("WRONG: " + what, x.ofItem(item, 9), isSound && !copy.toString().equals(OWN) ? 1 : 0);
            }
        }
    }

    private static char oneMore(char digit) {
        return digit == '9' ? '0' : (char) (digit + 1);
    }

    /** "is 1 more (0 of 9)": the digits 5 and 10 of both, at the PLACES 4 and 9, stay SOUND by 7 and 3. */
    private void aKeyerSlipsFromNine() {
        int[][] cases = {{3400, 0, 3410, 100}, {3480, 800, 3490, 900}, {3490, 900, 3400, 0}, {3490, 1900, 3400, 1000}};
        for (int[] c : cases) {
            Sortpocket x = new Sortpocket();
            x.item(12, c[0], c[1] + 5, 0, ALL);
            x.readAll();
            x.keyer(0, 5);
            x.keyer(1, 5);
            tests.same("nobody LOOKS", x.key(0), false);
            tests.same("ACCOUNT of " + c[0], x.ofItem(0, 7), c[2]);
            tests.same("AMOUNT of " + c[1], x.ofItem(0, 8), c[3] + 5);
        }
    }

    /** "the number of digits that it has keyed, with this one": of ITEMS at which somebody LOOKED, too. */
    private void digitsOfAllThatWasEverKeyed() {
        Sortpocket x = withAll(3, ALL);
        x.readAll();
        x.keyer(0, 12);
        tests.same("the 12th", x.key(0), true);
        x.keyer(0, 13);
        tests.same("the 13th", x.key(1), true);
        x.keyer(0, 37);
        tests.same("the 37th is not among 36", x.key(2), false);
        Sortpocket y = withAll(3, ALL);
        y.readAll();
        for (int item = 0; item < 3; item++) {
            y.keyer(0, 36);
            y.keyer(1, 25);
            tests.same("the 25th and the 36th, at " + item, y.key(item), item == 2);
        }
    }

    /** "if the number of digits ... can be divided by EVERY (as that is now)". */
    private void everyAsItIsNow() {
        Sortpocket x = withAll(3, ALL);
        x.readAll();
        x.keyer(0, 5);
        x.keyer(0, 99);
        tests.same("EVERY as it was is gone", x.key(0), false);
        x.keyer(0, 23);
        tests.same("the 23rd, though 12 were keyed ahead", x.key(1), true);
        x.keyer(0, 2);
        x.keyer(1, 2);
        x.keyer(0, 99);
        tests.same("of the KEYER 1 alone", x.key(2), true);
    }

    /** "otherwise somebody LOOKS": what each keyed is SOUND, but not the same. */
    private void differentThoughSound() {
        Sortpocket x = with(ALL);
        x.readAll();
        x.keyer(0, 5);
        tests.same("not the same", x.key(0), true);
        tests.same("its own line", x.line(0, false), OWN);
        tests.same("LOOKED", x.house(7), 1);
        Sortpocket y = with(ALL);
        y.readAll();
        y.keyer(0, 5);
        y.keyer(1, 5);
        tests.same("the same", y.key(0), false);
        tests.same("another line", y.line(0, false), "123466700889");
        tests.same("LOOKED at none", y.house(7), 0);
    }

    /** blind(): "PLACES of its own LINE (0 to 10)": the PLACE 11 has no next one. */
    private void blindAtTheFirstAndTheLastPlace() {
        Sortpocket x = new Sortpocket();
        x.item(50, 0, 50, 0, 0);
        x.item(5, 0, 5, 0, 0);
        x.item(77, 7777, 77777, 0, 0);
        for (int item = 0; item < 3; item++) {
            String own = x.line(item, true);
            int due = 0;
            for (int place = 0; place < 11; place++) {
                int apart = own.charAt(place) - own.charAt(place + 1);
                // Neighbours count 4 or 6 or 2 more or less: with digits that are 5 apart that goes by 10.
                due += apart != 0 && Math.abs(apart) % 5 == 0 ? 1 << place : 0;
            }
            tests.same("blind of " + own, x.blind(item), due);
        }
        tests.same("the first two", x.blind(0) & 1, 1);
        tests.same("the last two", x.blind(0) >> 10, 1);
        tests.same("the last two", x.blind(1) >> 10, 1);
        tests.same("none", x.blind(2) & 0x43F, 0);
    }

    /** blind(): "of its own LINE", whatever it is KNOWN by; an ITEM that is RAW or REJECTED has one, too. */
    private void blindOfItsOwnLine() {
        Sortpocket x = new Sortpocket();
        // Both KEYERS make 5005 and 500 of 5095 and 400: 50 9 5 then becomes 50 0 5.
        x.item(12, 5095, 400, 0, ALL);
        int due = x.blind(0);
        x.readAll();
        tests.same("of one that is REJECTED", x.blind(0), due);
        x.keyer(0, 5);
        x.keyer(1, 5);
        tests.same("nobody LOOKS", x.key(0), false);
        tests.same("WRONG", x.line(0, false).substring(2, 6), "5005");
        tests.same("of one that is WRONG", x.blind(0), due);
        tests.same("5 and 0", due >> 2 & 1, 1);
        tests.same("9 and 5 are not 5 apart, as 0 and 5 would be", due >> 4 & 1, 0);
    }
}
