/** A machine that reads lines of signs, and sorts paper into pockets. */
public final class Sortpocket {
    private static final int NONE = -1;

    private static final int MOST_BANK = 99;
    private static final int MOST_ACCOUNT = 9999;
    private static final int MOST_AMOUNT = 99999;
    private static final int MOST_CONTROL = 9999999;
    private static final int MOST_FAULT = 20;
    private static final int LEAST_EVERY = 2;
    private static final int MOST_EVERY = 99;
    private static final int LEAST_POCKETS = 2;
    private static final int MOST_POCKETS = 6;
    private static final int LEAST_CAP = 2;
    private static final int MOST_CAP = 40;

    private static final int PLACES = 12;
    private static final int ALL_PLACES = 4095;
    private static final int CHECK_PLACE = 6;
    private static final int AMOUNT_PLACE = 7;
    private static final int LAST_PLACE = 11;

    private static final int MOST_ITEMS = 40;
    private static final int MOST_STUBS = 16;
    private static final int MOST_ENDS = 9;
    private static final int BATCHES = 8;
    private static final int WAYS = 4;
    // 9 ENDS and OTHERS, and what is put together of them: one less than these at most.
    private static final int MOST_NODES = 19;
    private static final int RANKS_BY_VOLUME = 10;

    private static final int RAW = 0;
    private static final int READ = 1;
    private static final int REJECTED = 2;
    private static final int KEYED = 3;

    private static final int TOLD_PAID = 1;
    private static final int TOLD_OTHER_AMOUNT = 2;
    private static final int TOLD_UNKNOWN = 3;
    private static final int TOLD_AGAIN = 4;

    private static final int TWICE = 0;
    private static final int WRONG_SIDE = 1;
    private static final int TURNED = 2;

    private static final int ITEM_FACTS = 14;
    private static final int END_FACTS = 3;
    private static final int PILE_FACTS = 5;
    private static final int BATCH_FACTS = 5;
    private static final int STUB_FACTS = 3;
    private static final int HOUSE_FACTS = 19;

    private final Item[] items = new Item[MOST_ITEMS];
    private final Stub[] stubs = new Stub[MOST_STUBS];
    private final Row controls = new Row(BATCHES);
    private final Scanner scanner = new Scanner();
    private final Keyer firstKeyer = new Keyer();
    private final Keyer secondKeyer = new Keyer();
    private final Sorter sorter = new Sorter();
    private int looked;
    private int refused;

    public Sortpocket() {
    }

    // ---- items, the machine, the desk

    public int item(int bank, int account, int amount, int batch, int smudged)
            throws IllegalArgumentException, IllegalStateException {
        if (!makesLine(bank, account, amount) || amount < 1
                || !isWithin(batch, 0, BATCHES - 1) || !isWithin(smudged, 0, ALL_PLACES)) {
            throw new IllegalArgumentException("no such bank, account, amount, batch or places");
        }
        for (int number = 0; number < items.length; number++) {
            if (items[number] == null) {
                items[number] = new Item(number, Lines.of(bank, account, amount), batch, smudged);
                return number;
            }
        }
        throw new IllegalStateException("there are 40 items");
    }

    public int machine(int fault, int slip) throws IllegalArgumentException {
        if (!isWithin(fault, 0, MOST_FAULT) || !isWithin(slip, 0, MOST_FAULT)) {
            throw new IllegalArgumentException("fault and slip are 0 to 20");
        }
        int before = scanner.fault;
        scanner.fault = fault;
        scanner.slip = slip;
        return before;
    }

    public int keyer(int keyer, int every) throws IndexOutOfBoundsException, IllegalArgumentException {
        if (!isWithin(keyer, 0, 1)) {
            throw new IndexOutOfBoundsException("there are the keyers 0 and 1");
        }
        if (!isWithin(every, LEAST_EVERY, MOST_EVERY)) {
            throw new IllegalArgumentException("every is 2 to 99");
        }
        Keyer told = keyer == 0 ? firstKeyer : secondKeyer;
        int before = told.every;
        told.every = every;
        return before;
    }

    public int read(int item) throws IndexOutOfBoundsException, IllegalStateException {
        Item one = itemAt(item);
        if (one.state != RAW) {
            throw new IllegalStateException("the item is not raw");
        }
        return scan(one);
    }

    public int readAll() {
        int rejected = 0;
        for (Item one : items) {
            if (one != null && one.state == RAW) {
                scan(one);
                rejected += one.state == REJECTED ? 1 : 0;
            }
        }
        return rejected;
    }

    public boolean key(int item) throws IndexOutOfBoundsException, IllegalStateException {
        Item one = itemAt(item);
        if (one.state != REJECTED) {
            throw new IllegalStateException("the item is not rejected");
        }
        long first = firstKeyer.copyOf(one.own);
        long second = secondKeyer.copyOf(one.own);
        boolean isAgreed = first == second && Lines.addsUp(first);
        if (!isAgreed) {
            looked++;
        }
        one.becomeKnown(KEYED, isAgreed ? first : one.own);
        sorter.take(one);
        return !isAgreed;
    }

    // ---- pockets

    public int end(int bank) throws IllegalArgumentException, IllegalStateException {
        if (!isWithin(bank, 0, MOST_BANK)) {
            throw new IllegalArgumentException("a bank is 0 to 99");
        }
        Ends ends = sorter.ends;
        if (ends.count >= MOST_ENDS || ends.isEnd(bank)) {
            throw new IllegalStateException("there are 9 ends, or the bank is one");
        }
        return ends.add(bank);
    }

    public int design(int pockets, int cap) throws IllegalArgumentException {
        if (!isPockets(pockets) || !isWithin(cap, LEAST_CAP, MOST_CAP)) {
            throw new IllegalArgumentException("pockets are 2 to 6, cap is 2 to 40");
        }
        sorter.layPlan(pockets, cap, items);
        return sorter.handlingNow(items);
    }

    public int run(int pile) throws IndexOutOfBoundsException, IllegalStateException {
        testPile(pile);
        if (!sorter.mayRun(pile)) {
            throw new IllegalStateException("the pile is sorted for an end");
        }
        return sorter.work(pile);
    }

    public int runAll() throws IllegalStateException {
        if (!sorter.isPlanned) {
            throw new IllegalStateException("there is no plan");
        }
        return sorter.workOnAll();
    }

    // ---- totals and stubs

    public int control(int batch, int control) throws IndexOutOfBoundsException, IllegalArgumentException {
        testBatch(batch);
        if (!isWithin(control, 0, MOST_CONTROL)) {
            throw new IllegalArgumentException("a control is 0 to 9999999");
        }
        controls.set(batch, control);
        return differenceOf(batch);
    }

    public int stub(int account, int amount) throws IllegalArgumentException, IllegalStateException {
        if (!isWithin(account, 0, MOST_ACCOUNT) || !isWithin(amount, 1, MOST_AMOUNT)) {
            throw new IllegalArgumentException("no such account or amount");
        }
        for (int number = 0; number < stubs.length; number++) {
            if (stubs[number] == null) {
                stubs[number] = new Stub(account, amount);
                return number;
            }
        }
        throw new IllegalStateException("there are 16 stubs");
    }

    public int present(int item) throws IndexOutOfBoundsException, IllegalStateException {
        Item one = itemAt(item);
        if (!one.isKnown()) {
            throw new IllegalStateException("the item is not known");
        }
        if (one.told != 0) {
            return TOLD_AGAIN;
        }
        one.told = settle(Lines.accountOf(one.known), Lines.amountOf(one.known));
        return one.told;
    }

    // Nobody is ever given the KEY by a call, so each knock is one without it.
    public int knock() {
        refused++;
        return refused;
    }

    // ---- what is asked

    public int ofItem(int item, int what) throws IndexOutOfBoundsException, IllegalArgumentException {
        Item one = itemAt(item);
        testFact(what, ITEM_FACTS);
        return itemFact(one, what);
    }

    public String line(int item, boolean isOwn) throws IndexOutOfBoundsException {
        Item one = itemAt(item);
        if (isOwn) {
            return Lines.textOf(one.own);
        }
        return one.isKnown() ? Lines.textOf(one.known) : "-";
    }

    public int ofEnd(int end, int what) throws IndexOutOfBoundsException, IllegalArgumentException {
        testEnd(end);
        testFact(what, END_FACTS);
        return endFact(end, what);
    }

    public String code(int end) throws IndexOutOfBoundsException {
        testEnd(end);
        int leaf = sorter.leafOf(end);
        return leaf == NONE ? "-" : sorter.plan.codeOf(leaf);
    }

    public int ofPile(int pile, int what) throws IndexOutOfBoundsException, IllegalArgumentException {
        testPile(pile);
        testFact(what, PILE_FACTS);
        return sorter.pileFact(pile, what);
    }

    public int inPile(int pile, int nth) throws IndexOutOfBoundsException, IllegalArgumentException {
        testPile(pile);
        if (nth < 0) {
            throw new IllegalArgumentException("places are counted from 0 on");
        }
        return sorter.numberIn(pile, nth);
    }

    public int ofBatch(int batch, int what) throws IndexOutOfBoundsException, IllegalArgumentException {
        testBatch(batch);
        testFact(what, BATCH_FACTS);
        return batchFact(batch, what);
    }

    public int hunt(int batch, int way, int nth) throws IndexOutOfBoundsException, IllegalArgumentException {
        testBatch(batch);
        testFact(way, WAYS);
        if (nth < 0) {
            throw new IllegalArgumentException("items are counted from 0 on");
        }
        return suspectOf(batch, way, nth);
    }

    public int ofStub(int stub, int what) throws IndexOutOfBoundsException, IllegalArgumentException {
        Stub one = stubAt(stub);
        testFact(what, STUB_FACTS);
        return stubFact(one, what);
    }

    public int house(int what) throws IllegalArgumentException {
        testFact(what, HOUSE_FACTS);
        return houseFact(what);
    }

    // ---- what would be

    public int check(int bank, int account, int amount) throws IllegalArgumentException {
        if (!makesLine(bank, account, amount)) {
            throw new IllegalArgumentException("no such bank, account or amount");
        }
        return Lines.digitAt(Lines.of(bank, account, amount), CHECK_PLACE);
    }

    public int blind(int item) throws IndexOutOfBoundsException {
        Item one = itemAt(item);
        int places = 0;
        for (int place = 0; place < LAST_PLACE; place++) {
            long turned = Lines.turnedAt(one.own, place);
            if (turned != one.own && Lines.addsUp(turned)) {
                places |= 1 << place;
            }
        }
        return places;
    }

    public int would(int pockets, boolean isPlain) throws IllegalArgumentException {
        if (!isPockets(pockets)) {
            throw new IllegalArgumentException("pockets are 2 to 6");
        }
        return isPlain ? plainHandling(pockets) : sorter.trialHandling(pockets, items);
    }

    public int fewest(int most) throws IllegalArgumentException {
        if (most < 0) {
            throw new IllegalArgumentException("handling is not below 0");
        }
        for (int pockets = LEAST_POCKETS; pockets <= MOST_POCKETS; pockets++) {
            if (sorter.trialHandling(pockets, items) <= most) {
                return pockets;
            }
        }
        return NONE;
    }

    public boolean isSound() {
        return knownAddUp() && plansSpareWork() && sorter.isTidy(items)
                && statesCoverAll() && paidStubs() == countTold(TOLD_PAID);
    }

    public long digest() {
        long sum = 7207;
        for (int what = 0; what < HOUSE_FACTS; what++) {
            sum = fold(sum, houseFact(what));
        }
        sum = foldItems(sum);
        sum = foldEnds(sum);
        sum = foldPiles(sum);
        sum = foldBatches(sum);
        for (Stub one : stubs) {
            if (one != null) {
                sum = fold(sum, stubFact(one, 2));
            }
        }
        for (int pockets = LEAST_POCKETS; pockets <= MOST_POCKETS; pockets++) {
            sum = fold(sum, sorter.trialHandling(pockets, items));
            sum = fold(sum, plainHandling(pockets));
        }
        return fold(sum, isSound() ? 1 : 0);
    }

    private static long fold(long sum, int value) {
        return sum * 31 + value;
    }

    private long foldItems(long before) {
        long sum = before;
        for (Item one : items) {
            for (int what = 0; one != null && what < ITEM_FACTS; what++) {
                sum = fold(sum, itemFact(one, what));
            }
        }
        return sum;
    }

    private long foldEnds(long before) {
        long sum = before;
        for (int end = 0; end <= sorter.ends.count; end++) {
            for (int what = 0; what < END_FACTS; what++) {
                sum = fold(sum, endFact(end, what));
            }
        }
        return sum;
    }

    private long foldPiles(long before) {
        long sum = before;
        int piles = sorter.pileCount();
        for (int pile = 0; pile < piles; pile++) {
            for (int what = 0; what < PILE_FACTS; what++) {
                sum = fold(sum, sorter.pileFact(pile, what));
            }
        }
        return sum;
    }

    private long foldBatches(long before) {
        long sum = before;
        for (int batch = 0; batch < BATCHES; batch++) {
            for (int what = 0; what < BATCH_FACTS; what++) {
                sum = fold(sum, batchFact(batch, what));
            }
            for (int way = 0; way < WAYS; way++) {
                sum = fold(sum, suspectOf(batch, way, 0));
            }
        }
        return sum;
    }

    // ---- tests of what is told

    private static boolean isWithin(int value, int least, int most) {
        return value >= least && value <= most;
    }

    private static boolean makesLine(int bank, int account, int amount) {
        return isWithin(bank, 0, MOST_BANK) && isWithin(account, 0, MOST_ACCOUNT)
                && isWithin(amount, 0, MOST_AMOUNT);
    }

    private static boolean isPockets(int pockets) {
        return isWithin(pockets, LEAST_POCKETS, MOST_POCKETS);
    }

    private static void testFact(int what, int facts) throws IllegalArgumentException {
        if (!isWithin(what, 0, facts - 1)) {
            throw new IllegalArgumentException("nothing is asked by that number");
        }
    }

    private static void testBatch(int batch) throws IndexOutOfBoundsException {
        if (!isWithin(batch, 0, BATCHES - 1)) {
            throw new IndexOutOfBoundsException("batches are 0 to 7");
        }
    }

    private void testEnd(int end) throws IndexOutOfBoundsException {
        if (!isWithin(end, 0, sorter.ends.count)) {
            throw new IndexOutOfBoundsException("no such end");
        }
    }

    private void testPile(int pile) throws IndexOutOfBoundsException {
        if (!isWithin(pile, 0, sorter.pileCount() - 1)) {
            throw new IndexOutOfBoundsException("no such pile");
        }
    }

    private Item itemAt(int item) throws IndexOutOfBoundsException {
        if (item < 0 || item >= items.length || items[item] == null) {
            throw new IndexOutOfBoundsException("no such item");
        }
        return items[item];
    }

    private Stub stubAt(int stub) throws IndexOutOfBoundsException {
        if (stub < 0 || stub >= stubs.length || stubs[stub] == null) {
            throw new IndexOutOfBoundsException("no such stub");
        }
        return stubs[stub];
    }

    // ---- items

    private int scan(Item one) {
        int lost = scanner.scan(one);
        if (one.isKnown()) {
            sorter.take(one);
        }
        return lost;
    }

    private int itemFact(Item one, int what) {
        switch (what) {
            case 0: return Lines.bankOf(one.own);
            case 1: return Lines.accountOf(one.own);
            case 2: return Lines.amountOf(one.own);
            case 3: return one.batch;
            case 4: return one.smudged;
            case 5: return one.state;
            case 9: return one.isWrong() ? 1 : 0;
            case 11: return one.pile;
            case 12: return sorter.isSorted(one) ? 1 : 0;
            case 13: return one.told;
            default: return one.isKnown() ? knownFact(one, what) : NONE;
        }
    }

    private int knownFact(Item one, int what) {
        switch (what) {
            case 6: return Lines.bankOf(one.known);
            case 7: return Lines.accountOf(one.known);
            case 8: return Lines.amountOf(one.known);
            default: return sorter.ends.endOf(one.knownBank());
        }
    }

    private int countItems() {
        int count = 0;
        for (Item one : items) {
            count += one != null ? 1 : 0;
        }
        return count;
    }

    private int countIn(int state) {
        int count = 0;
        for (Item one : items) {
            count += one != null && one.state == state ? 1 : 0;
        }
        return count;
    }

    private int countKnown() {
        return countIn(READ) + countIn(KEYED);
    }

    private int countWrong() {
        int count = 0;
        for (Item one : items) {
            count += one != null && one.isWrong() ? 1 : 0;
        }
        return count;
    }

    private int countSorted() {
        int count = 0;
        for (Item one : items) {
            count += one != null && sorter.isSorted(one) ? 1 : 0;
        }
        return count;
    }

    private int countTold(int told) {
        int count = 0;
        for (Item one : items) {
            count += one != null && one.told == told ? 1 : 0;
        }
        return count;
    }

    // ---- ends, and the house

    private int endFact(int end, int what) {
        switch (what) {
            case 0: return sorter.ends.bankOf(end);
            case 1: return sorter.volumeOf(end, items);
            default: return sorter.plan.lengthOf(sorter.leafOf(end));
        }
    }

    private int plainHandling(int pockets) {
        int length = 0;
        int reached = 1;
        for (int step = 0; step <= MOST_ENDS && reached <= sorter.ends.count; step++) {
            reached *= pockets;
            length++;
        }
        return length * countKnown();
    }

    private int houseFact(int what) {
        switch (what) {
            case 0: return countItems();
            case 1: return countIn(RAW);
            case 2: return countIn(READ);
            case 3: return countIn(REJECTED);
            case 4: return countIn(KEYED);
            case 5: return countWrong();
            case 6: return scanner.reckoned;
            case 7: return looked;
            case 8: return scanner.luck;
            case 9: return sorter.ends.count;
            case 10: return sorter.isPlanned ? sorter.plan.pockets : 0;
            case 11: return sorter.pileCount();
            case 12: return sorter.handlingNow(items);
            case 13: return sorter.handled;
            case 14: return sorter.emptied;
            case 15: return countSorted();
            case 16: return countStubs();
            case 17: return paidStubs();
            default: return refused;
        }
    }

    // ---- batches

    private int batchFact(int batch, int what) {
        int difference = differenceOf(batch);
        switch (what) {
            case 0: return controls.at(batch);
            case 1: return difference;
            case 2: return countOfBatch(batch, false);
            case 3: return countOfBatch(batch, true);
            default: return difference != 0 && difference % 9 == 0 ? 1 : 0;
        }
    }

    private int countOfBatch(int batch, boolean isKnownOnly) {
        int count = 0;
        for (Item one : items) {
            if (one != null && one.batch == batch && (!isKnownOnly || one.isKnown())) {
                count++;
            }
        }
        return count;
    }

    private int differenceOf(int batch) {
        int difference = controls.at(batch);
        for (Item one : items) {
            if (one != null && one.batch == batch && one.isKnown()) {
                difference -= Lines.amountOf(one.known);
            }
        }
        return difference;
    }

    private int suspectOf(int batch, int way, int nth) {
        int difference = differenceOf(batch);
        int ahead = 0;
        for (Item one : items) {
            if (one != null && one.batch == batch && one.isKnown()
                    && mayCause(way, Lines.amountOf(one.known), difference)) {
                if (ahead == nth) {
                    return one.number;
                }
                ahead++;
            }
        }
        return NONE;
    }

    private static boolean mayCause(int way, int amount, int difference) {
        if (difference == 0) {
            return false;
        }
        switch (way) {
            case TWICE: return amount == -difference;
            case WRONG_SIDE: return 2 * amount == difference || 2 * amount == -difference;
            case TURNED: return isTurned(amount, amount + difference);
            default: return isWithin(amount + difference, 0, MOST_AMOUNT)
                    && Lines.countOther(amount, amount + difference) == 1;
        }
    }

    // Two digits that are the same make the amount itself, which is never meant with a DIFFERENCE.
    private static boolean isTurned(int amount, int meant) {
        for (int place = AMOUNT_PLACE; place < LAST_PLACE; place++) {
            if (Lines.turnedAt(amount, place) == meant) {
                return true;
            }
        }
        return false;
    }

    // ---- stubs

    private int settle(int account, int amount) {
        boolean isAccountOpen = false;
        for (Stub one : stubs) {
            if (one != null && !one.isPaid && one.account == account) {
                if (one.amount == amount) {
                    one.isPaid = true;
                    return TOLD_PAID;
                }
                isAccountOpen = true;
            }
        }
        return isAccountOpen ? TOLD_OTHER_AMOUNT : TOLD_UNKNOWN;
    }

    private static int stubFact(Stub one, int what) {
        switch (what) {
            case 0: return one.account;
            case 1: return one.amount;
            default: return one.isPaid ? 1 : 0;
        }
    }

    private int countStubs() {
        int count = 0;
        for (Stub one : stubs) {
            count += one != null ? 1 : 0;
        }
        return count;
    }

    private int paidStubs() {
        int count = 0;
        for (Stub one : stubs) {
            count += one != null && one.isPaid ? 1 : 0;
        }
        return count;
    }

    // ---- whether all is sound

    private boolean knownAddUp() {
        for (Item one : items) {
            if (one != null && one.isKnown() && !Lines.addsUp(one.known)) {
                return false;
            }
        }
        return true;
    }

    private boolean plansSpareWork() {
        for (int pockets = LEAST_POCKETS; pockets <= MOST_POCKETS; pockets++) {
            if (sorter.trialHandling(pockets, items) > plainHandling(pockets)) {
                return false;
            }
        }
        return true;
    }

    private boolean statesCoverAll() {
        return countIn(RAW) + countIn(READ) + countIn(REJECTED) + countIn(KEYED) == countItems();
    }

    /** A row of numbers that looks at each place before it is used: there is NONE outside of it. */
    private static final class Row {
        private final int[] numbers;

        Row(int length) {
            numbers = new int[length < 0 ? 0 : length];
        }

        int at(int place) {
            return place >= 0 && place < numbers.length ? numbers[place] : NONE;
        }

        void set(int place, int number) {
            if (place >= 0 && place < numbers.length) {
                numbers[place] = number;
            }
        }

        /** Where the least number stands of those that are not NONE; NONE, if all are. */
        int placeOfLeast() {
            int found = NONE;
            int least = NONE;
            for (int place = 0; place < numbers.length; place++) {
                int number = numbers[place];
                if (number != NONE && (found == NONE || number < least)) {
                    found = place;
                    least = number;
                }
            }
            return found;
        }
    }

    /** LINES, each as the number that its 12 digits make: so two are the same if they are equal. */
    private static final class Lines {
        private static final long BANK_WORTH = 10000000000L;
        private static final long ACCOUNT_WORTH = 1000000L;
        private static final long AMOUNT_SPAN = 100000L;

        static long of(int bank, int account, int amount) {
            return reckoned(bank * BANK_WORTH + account * ACCOUNT_WORTH + amount, CHECK_PLACE);
        }

        static int bankOf(long line) {
            return (int) (line / BANK_WORTH);
        }

        static int accountOf(long line) {
            return (int) (line % BANK_WORTH / ACCOUNT_WORTH);
        }

        static int amountOf(long line) {
            return (int) (line % AMOUNT_SPAN);
        }

        static int digitAt(long line, int place) {
            long ahead = line;
            for (int cut = LAST_PLACE; cut > place; cut--) {
                ahead /= 10;
            }
            return (int) (ahead % 10);
        }

        private static long worthAt(int place) {
            long worth = 1;
            for (int passed = LAST_PLACE; passed > place; passed--) {
                worth *= 10;
            }
            return worth;
        }

        private static int weightAt(int place) {
            switch (place % 3) {
                case 0: return 3;
                case 1: return 7;
                default: return 1;
            }
        }

        static boolean addsUp(long line) {
            long rest = line;
            long sum = 0;
            for (int place = LAST_PLACE; place >= 0; place--) {
                sum += rest % 10 * weightAt(place);
                rest /= 10;
            }
            return sum % 10 == 0;
        }

        /** The LINE, which has 0 at the gap, with the digit there by which it is SOUND. */
        static long reckoned(long line, int gap) {
            long worth = worthAt(gap);
            long tried = line;
            for (int digit = 0; digit < 9 && !addsUp(tried); digit++) {
                tried += worth;
            }
            return tried;
        }

        /** The LINE with the digit at a PLACE and that of the next one changed for each other. */
        static long turnedAt(long line, int place) {
            int rise = digitAt(line, place + 1) - digitAt(line, place);
            return line + rise * worthAt(place) - rise * worthAt(place + 1);
        }

        /** At how many PLACES two have other digits. */
        static int countOther(long line, long other) {
            int count = 0;
            for (int place = 0; place < PLACES; place++) {
                count += digitAt(line, place) != digitAt(other, place) ? 1 : 0;
            }
            return count;
        }

        static String textOf(long line) {
            StringBuilder text = new StringBuilder();
            for (int place = 0; place < PLACES; place++) {
                text.append((char) ('0' + digitAt(line, place)));
            }
            return text.toString();
        }
    }

    private static final class Item {
        final int number;
        final long own;
        final int batch;
        final int smudged;
        int state = RAW;
        long known;
        int pile = NONE;
        int told;

        Item(int number, long own, int batch, int smudged) {
            this.number = number;
            this.own = own;
            this.batch = batch;
            this.smudged = smudged;
        }

        boolean isKnown() {
            return state == READ || state == KEYED;
        }

        boolean isWrong() {
            return isKnown() && known != own;
        }

        boolean isSmudgedAt(int place) {
            return (smudged >> place & 1) == 1;
        }

        int knownBank() {
            return Lines.bankOf(known);
        }

        void becomeKnown(int by, long line) {
            state = by;
            known = line;
        }
    }

    /** The machine's eye, with the LUCK by which it fails. */
    private static final class Scanner {
        int fault;
        int slip;
        int luck = 17;
        int reckoned;

        private int draw(int from) {
            luck = (61 * luck + 29) % 256;
            return luck * from / 256;
        }

        /** READS an ITEM; tells how many PLACES could not be made out. */
        int scan(Item one) {
            long made = 0;
            int lost = 0;
            int gap = NONE;
            for (int place = 0; place < PLACES; place++) {
                int digit = digitSeen(one, place);
                if (digit == NONE) {
                    lost++;
                    gap = place;
                }
                made = made * 10 + (digit == NONE ? 0 : digit);
            }
            if (lost == 1) {
                made = Lines.reckoned(made, gap);
                reckoned++;
            }
            if (lost <= 1 && Lines.addsUp(made)) {
                one.becomeKnown(READ, made);
            } else {
                one.state = REJECTED;
            }
            return lost;
        }

        private int digitSeen(Item one, int place) {
            if (one.isSmudgedAt(place)) {
                return NONE;
            }
            int drawn = draw(100);
            if (drawn < fault) {
                return NONE;
            }
            int digit = Lines.digitAt(one.own, place);
            return drawn >= 100 - slip ? (digit + 1) % 10 : digit;
        }
    }

    private static final class Keyer {
        int every = MOST_EVERY;
        private int keyed;

        /** What this KEYER makes of a LINE as it keys that. */
        long copyOf(long line) {
            long copy = 0;
            for (int place = 0; place < PLACES; place++) {
                keyed++;
                int digit = Lines.digitAt(line, place);
                boolean isSlip = every > 0 && keyed % every == 0;
                copy = copy * 10 + (isSlip ? (digit + 1) % 10 : digit);
            }
            return copy;
        }
    }

    private static final class Stub {
        final int account;
        final int amount;
        boolean isPaid;

        Stub(int account, int amount) {
            this.account = account;
            this.amount = amount;
        }
    }

    private static final class Ends {
        private final Row banks = new Row(MOST_ENDS);
        private final Row endsByBank = new Row(MOST_BANK + 1);
        int count;

        Ends() {
            for (int bank = 0; bank <= MOST_BANK; bank++) {
                endsByBank.set(bank, NONE);
            }
        }

        int add(int bank) {
            int end = count;
            banks.set(end, bank);
            endsByBank.set(bank, end);
            count++;
            return end;
        }

        int bankOf(int end) {
            return end < count ? banks.at(end) : NONE;
        }

        boolean isEnd(int bank) {
            return endsByBank.at(bank) != NONE;
        }

        int endOf(int bank) {
            return endAmong(bank, count);
        }

        /** The END of a BANK by the first ENDS alone; the number behind them is that of OTHERS. */
        int endAmong(int bank, int first) {
            int end = endsByBank.at(bank);
            return end != NONE && end < first ? end : first;
        }
    }

    /**
     * GROUPS as they are put together. The nodes 0 to leaves - 1 are the ENDS and OTHERS; what is
     * put together has a higher number than its parts, and the whole has the highest.
     */
    private static final class Tree {
        // GROUPS by their VOLUMES, then by their smallest ENDS; NONE for what is a part of another.
        private final Row ranks = new Row(MOST_NODES);
        private final Row wholes = new Row(MOST_NODES);
        private final Row pocketsOfParts = new Row(MOST_NODES);
        private final Row lengths = new Row(MOST_NODES);
        private final Row nodesByPile = new Row(MOST_NODES);
        private final Row pilesByNode = new Row(MOST_NODES);
        int pockets;
        int leaves;
        int nodes;

        void grow(int pocketCount, int leafCount, Row volumes) {
            pockets = pocketCount;
            leaves = leafCount;
            nodes = leafCount;
            clear();
            for (int leaf = 0; leaf < leafCount; leaf++) {
                ranks.set(leaf, rankOf(volumes.at(leaf), leaf));
            }
            int groups = leafCount;
            int wanted = firstParts();
            for (int round = 0; round < MOST_ENDS && groups >= 2; round++) {
                int parts = Math.min(wanted, groups);
                putTogether(parts);
                groups -= parts - 1;
                wanted = pockets;
            }
            measure();
        }

        private void clear() {
            for (int node = 0; node < MOST_NODES; node++) {
                ranks.set(node, NONE);
                wholes.set(node, NONE);
            }
        }

        private static int rankOf(int volume, int smallestEnd) {
            return volume * RANKS_BY_VOLUME + smallestEnd;
        }

        private int firstParts() {
            int spare = pockets - 1;
            return spare > 0 && leaves >= 2 ? (leaves - 2) % spare + 2 : pockets;
        }

        private void putTogether(int parts) {
            int volume = 0;
            int smallestEnd = MOST_ENDS;
            int whole = nodes;
            for (int pocket = 0; pocket < parts; pocket++) {
                int part = ranks.placeOfLeast();
                int rank = ranks.at(part);
                ranks.set(part, NONE);
                wholes.set(part, whole);
                pocketsOfParts.set(part, pocket);
                volume += rank / RANKS_BY_VOLUME;
                smallestEnd = Math.min(smallestEnd, rank % RANKS_BY_VOLUME);
            }
            ranks.set(whole, rankOf(volume, smallestEnd));
            nodes++;
        }

        int handlingOf(Row volumes) {
            int handling = 0;
            for (int leaf = 0; leaf < leaves; leaf++) {
                handling += volumes.at(leaf) * lengths.at(leaf);
            }
            return handling;
        }

        // From the highest node down, so that each whole is measured before its parts.
        private void measure() {
            for (int node = nodes - 1; node >= 0; node--) {
                int whole = wholes.at(node);
                lengths.set(node, whole == NONE ? 0 : lengths.at(whole) + 1);
            }
        }

        // Level by level from the whole on: that is the order by the length of CODES, then by CODES.
        void numberPiles() {
            int numbered = 0;
            numberPile(numbered, nodes - 1);
            numbered++;
            for (int pile = 0; pile < nodes; pile++) {
                for (int pocket = 0; pocket < pockets; pocket++) {
                    int part = partOf(nodesByPile.at(pile), pocket);
                    if (part != NONE) {
                        numberPile(numbered, part);
                        numbered++;
                    }
                }
            }
        }

        private void numberPile(int pile, int node) {
            nodesByPile.set(pile, node);
            pilesByNode.set(node, pile);
        }

        private int partOf(int whole, int pocket) {
            for (int node = 0; node < nodes; node++) {
                if (wholes.at(node) == whole && pocketsOfParts.at(node) == pocket) {
                    return node;
                }
            }
            return NONE;
        }

        int nodeOf(int pile) {
            return nodesByPile.at(pile);
        }

        boolean isLeaf(int node) {
            return node < leaves;
        }

        int lengthOf(int node) {
            return lengths.at(node);
        }

        /** The PILE right behind the node of a PILE, on the way to a leaf. */
        int pileTowards(int leaf, int pile) {
            int from = nodeOf(pile);
            int node = leaf;
            for (int step = 0; step < MOST_NODES && wholes.at(node) != from; step++) {
                node = wholes.at(node);
            }
            return pilesByNode.at(node);
        }

        String codeOf(int leaf) {
            StringBuilder text = new StringBuilder();
            int node = leaf;
            for (int step = 0; step < MOST_NODES && wholes.at(node) != NONE; step++) {
                text.append((char) ('0' + pocketsOfParts.at(node)));
                node = wholes.at(node);
            }
            return text.reverse().toString();
        }
    }

    private static final class Pile {
        private final Item[] row = new Item[MOST_ITEMS];
        int count;
        private int held;

        void add(Item one) {
            if (count >= 0 && count < row.length) {
                row[count] = one;
                count++;
            }
        }

        Item at(int nth) {
            return nth >= 0 && nth < count && nth < row.length ? row[nth] : null;
        }

        void clear() {
            count = 0;
        }

        void startRun() {
            held = 0;
        }

        /** Takes an ITEM in a run; tells whether the POCKET is EMPTIED by that. */
        boolean fill(Item one, int cap) {
            add(one);
            held++;
            if (held < cap) {
                return false;
            }
            held = 0;
            return true;
        }
    }

    /** The ENDS, the plan, and the PILES by that plan. */
    private static final class Sorter {
        final Ends ends = new Ends();
        final Tree plan = new Tree();
        // What would be is tried on a tree of its own: the plan must stay as it is.
        private final Tree trial = new Tree();
        private final Row volumes = new Row(MOST_ENDS + 1);
        private final Pile[] piles = new Pile[MOST_NODES];
        boolean isPlanned;
        int handled;
        int emptied;
        private int cap = MOST_CAP;

        Sorter() {
            for (int pile = 0; pile < piles.length; pile++) {
                piles[pile] = new Pile();
            }
        }

        void layPlan(int pockets, int newCap, Item[] items) {
            countVolumes(ends.count, items);
            plan.grow(pockets, ends.count + 1, volumes);
            plan.numberPiles();
            cap = newCap;
            isPlanned = true;
            for (Pile each : piles) {
                if (each != null) {
                    each.clear();
                }
            }
            for (Item one : items) {
                if (one != null && one.isKnown()) {
                    take(one);
                }
            }
        }

        /** Counts what is KNOWN by the first ENDS alone, with OTHERS behind them. */
        private void countVolumes(int first, Item[] items) {
            for (int end = 0; end <= MOST_ENDS; end++) {
                volumes.set(end, 0);
            }
            for (Item one : items) {
                if (one != null && one.isKnown()) {
                    int end = ends.endAmong(one.knownBank(), first);
                    volumes.set(end, volumes.at(end) + 1);
                }
            }
        }

        int volumeOf(int end, Item[] items) {
            countVolumes(ends.count, items);
            return volumes.at(end);
        }

        /** An ITEM that is KNOWN comes to the end of the first PILE, if there is one. */
        void take(Item one) {
            Pile first = pileAt(0);
            if (first != null) {
                first.add(one);
                one.pile = 0;
            }
        }

        int trialHandling(int pockets, Item[] items) {
            countVolumes(ends.count, items);
            trial.grow(pockets, ends.count + 1, volumes);
            return trial.handlingOf(volumes);
        }

        int handlingNow(Item[] items) {
            if (!isPlanned) {
                return 0;
            }
            countVolumes(plan.leaves - 1, items);
            return plan.handlingOf(volumes);
        }

        private int leafOfItem(Item one) {
            return ends.endAmong(one.knownBank(), plan.leaves - 1);
        }

        /** The leaf of an END, or of OTHERS, as it is numbered now; NONE, if the plan has none. */
        int leafOf(int end) {
            if (!isPlanned) {
                return NONE;
            }
            int others = plan.leaves - 1;
            if (end == ends.count) {
                return others;
            }
            return end < others ? end : NONE;
        }

        int pileCount() {
            return isPlanned ? plan.nodes : 0;
        }

        private Pile pileAt(int pile) {
            return pile >= 0 && pile < pileCount() && pile < piles.length ? piles[pile] : null;
        }

        private Item itemIn(int pile, int nth) {
            Pile one = pileAt(pile);
            return one == null ? null : one.at(nth);
        }

        int numberIn(int pile, int nth) {
            Item one = itemIn(pile, nth);
            return one == null ? NONE : one.number;
        }

        int pileFact(int pile, int what) {
            int count = countIn(pile);
            int node = plan.nodeOf(pile);
            switch (what) {
                case 0: return count;
                case 1: return numberIn(pile, 0);
                case 2: return numberIn(pile, count - 1);
                case 3: return plan.lengthOf(node);
                default: return plan.isLeaf(node) ? node : NONE;
            }
        }

        private int countIn(int pile) {
            Pile one = pileAt(pile);
            return one == null ? 0 : one.count;
        }

        boolean isSorted(Item one) {
            return isPlanned && one.isKnown() && plan.nodeOf(one.pile) == leafOfItem(one);
        }

        boolean mayRun(int pile) {
            return pile >= 0 && pile < pileCount() && !plan.isLeaf(plan.nodeOf(pile));
        }

        int work(int pile) {
            Pile from = pileAt(pile);
            if (from == null) {
                return 0;
            }
            for (Pile each : piles) {
                if (each != null) {
                    each.startRun();
                }
            }
            int count = from.count;
            for (int nth = 0; nth < count; nth++) {
                moveOn(from.at(nth), pile);
            }
            from.clear();
            handled += count;
            return count;
        }

        private void moveOn(Item one, int pile) {
            if (one == null) {
                return;
            }
            int next = plan.pileTowards(leafOfItem(one), pile);
            Pile pocket = pileAt(next);
            if (pocket != null) {
                one.pile = next;
                emptied += pocket.fill(one, cap) ? 1 : 0;
            }
        }

        // A run fills only PILES with higher numbers, so one way through finds each in its turn.
        int workOnAll() {
            int runs = 0;
            int count = pileCount();
            for (int pile = 0; pile < count; pile++) {
                if (mayRun(pile) && countIn(pile) > 0) {
                    work(pile);
                    runs++;
                }
            }
            return runs;
        }

        boolean isTidy(Item[] items) {
            long known = 0;
            for (Item one : items) {
                if (isPlanned && one != null && one.isKnown()) {
                    known |= 1L << one.number;
                }
            }
            int count = pileCount();
            for (int pile = 0; pile < count; pile++) {
                for (int nth = 0; nth < countIn(pile); nth++) {
                    Item one = itemIn(pile, nth);
                    if (one == null || !isPlaced(one, pile) || (known >> one.number & 1) == 0) {
                        return false;
                    }
                    known ^= 1L << one.number;
                }
            }
            return known == 0;
        }

        private boolean isPlaced(Item one, int pile) {
            int node = plan.nodeOf(pile);
            return !plan.isLeaf(node) || node == leafOfItem(one);
        }
    }
}
