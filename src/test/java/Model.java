import java.util.ArrayList;
import java.util.Comparator;
import java.util.List;
import java.util.TreeMap;
import java.util.TreeSet;

/**
 * The document once more, in another way than the program: LINES and CODES are texts, GROUPS are
 * sets, PILES are found by their CODES. Slow and plain, to compare with.
 */
final class Model {
    private static final int[] WEIGHTS = {3, 7, 1, 3, 7, 1, 3, 7, 1, 3, 7, 1};
    private static final String[] STATES = {"RAW", "READ", "REJECTED", "KEYED"};

    private static final class Paper {
        String own;
        String known = null;
        int batch;
        int smudged;
        String state = "RAW";
        int told = 0;
    }

    private static final class Group {
        TreeSet<Integer> ends = new TreeSet<>();
        int volume;
    }

    private final List<Paper> papers = new ArrayList<>();
    private final List<int[]> stubs = new ArrayList<>();
    private final List<Integer> banks = new ArrayList<>();
    private final int[] controls = new int[8];
    private final int[] every = {99, 99};
    private final int[] keyed = {0, 0};
    private int fault = 0;
    private int slip = 0;
    private int luck = 17;
    private int reckoned = 0;
    private int looked = 0;
    private int handled = 0;
    private int emptied = 0;
    private int refused = 0;

    private List<Integer> planBanks = null;
    private int planPockets = 0;
    private int cap = 40;
    private List<String> planCodes = null;
    private TreeMap<String, List<Integer>> piles = null;

    // ---- lines

    private static int sum(String line) {
        int sum = 0;
        for (int k = 0; k < 12; k++) {
            sum += WEIGHTS[k] * (line.charAt(k) - '0');
        }
        return sum;
    }

    private static boolean sound(String line) {
        return sum(line) % 10 == 0;
    }

    private static String with(String line, int place, int digit) {
        return line.substring(0, place) + digit + line.substring(place + 1);
    }

    private static String fill(String line, int place) {
        for (int digit = 0; digit <= 9; digit++) {
            if (sound(with(line, place, digit))) {
                return with(line, place, digit);
            }
        }
        throw new AssertionError("no digit fits");
    }

    private static String makeLine(int bank, int account, int amount) {
        return fill(String.format("%02d%04d0%05d", bank, account, amount), 6);
    }

    private static int bankOf(String line) {
        return Integer.parseInt(line.substring(0, 2));
    }

    private static int accountOf(String line) {
        return Integer.parseInt(line.substring(2, 6));
    }

    private static int amountOf(String line) {
        return Integer.parseInt(line.substring(7));
    }

    private static boolean out(int value, int least, int most) {
        return value < least || value > most;
    }

    private Paper paper(int item) {
        if (out(item, 0, papers.size() - 1)) {
            throw new IndexOutOfBoundsException();
        }
        return papers.get(item);
    }

    // ---- the calls

    public int item(int bank, int account, int amount, int batch, int smudged) {
        if (out(bank, 0, 99) || out(account, 0, 9999) || out(amount, 1, 99999) || out(batch, 0, 7)
                || out(smudged, 0, 4095)) {
            throw new IllegalArgumentException();
        }
        if (papers.size() == 40) {
            throw new IllegalStateException();
        }
        Paper p = new Paper();
        p.own = makeLine(bank, account, amount);
        p.batch = batch;
        p.smudged = smudged;
        papers.add(p);
        return papers.size() - 1;
    }

    public int machine(int newFault, int newSlip) {
        if (out(newFault, 0, 20) || out(newSlip, 0, 20)) {
            throw new IllegalArgumentException();
        }
        int before = fault;
        fault = newFault;
        slip = newSlip;
        return before;
    }

    public int keyer(int keyer, int newEvery) {
        if (out(keyer, 0, 1)) {
            throw new IndexOutOfBoundsException();
        }
        if (out(newEvery, 2, 99)) {
            throw new IllegalArgumentException();
        }
        int before = every[keyer];
        every[keyer] = newEvery;
        return before;
    }

    public int read(int item) {
        Paper p = paper(item);
        if (!p.state.equals("RAW")) {
            throw new IllegalStateException();
        }
        StringBuilder seen = new StringBuilder();
        for (int k = 0; k < 12; k++) {
            char sign = p.own.charAt(k);
            if ((p.smudged & 1 << k) != 0) {
                sign = '?';
            } else {
                luck = (61 * luck + 29) & 255;
                int drawn = luck * 100 / 256;
                if (drawn < fault) {
                    sign = '?';
                } else if (drawn >= 100 - slip) {
                    sign = sign == '9' ? '0' : (char) (sign + 1);
                }
            }
            seen.append(sign);
        }
        String line = seen.toString();
        int lost = line.replaceAll("[0-9]", "").length();
        if (lost == 1) {
            int gap = line.indexOf('?');
            line = fill(with(line, gap, 0), gap);
            reckoned++;
        }
        if (lost < 2 && sound(line)) {
            know(item, "READ", line);
        } else {
            p.state = "REJECTED";
        }
        return lost;
    }

    private void know(int item, String state, String line) {
        papers.get(item).state = state;
        papers.get(item).known = line;
        if (piles != null) {
            piles.get("").add(item);
        }
    }

    public int readAll() {
        int rejected = 0;
        for (int item = 0; item < papers.size(); item++) {
            if (papers.get(item).state.equals("RAW")) {
                read(item);
                if (papers.get(item).state.equals("REJECTED")) {
                    rejected++;
                }
            }
        }
        return rejected;
    }

    public boolean key(int item) {
        Paper p = paper(item);
        if (!p.state.equals("REJECTED")) {
            throw new IllegalStateException();
        }
        String[] copies = {"", ""};
        for (int keyer = 0; keyer < 2; keyer++) {
            for (char sign : p.own.toCharArray()) {
                keyed[keyer]++;
                int digit = sign - '0';
                if (keyed[keyer] % every[keyer] == 0) {
                    digit = digit == 9 ? 0 : digit + 1;
                }
                copies[keyer] += digit;
            }
        }
        boolean looks = !(copies[0].equals(copies[1]) && sound(copies[0]));
        if (looks) {
            looked++;
        }
        know(item, "KEYED", looks ? p.own : copies[0]);
        return looks;
    }

    public int end(int bank) {
        if (out(bank, 0, 99)) {
            throw new IllegalArgumentException();
        }
        if (banks.size() == 9 || banks.contains(bank)) {
            throw new IllegalStateException();
        }
        banks.add(bank);
        return banks.size() - 1;
    }

    private static int endBy(List<Integer> list, int bank) {
        return list.contains(bank) ? list.indexOf(bank) : list.size();
    }

    private int volume(int end) {
        int volume = 0;
        for (Paper p : papers) {
            if (p.known != null && endBy(banks, bankOf(p.known)) == end) {
                volume++;
            }
        }
        return volume;
    }

    private List<String> makeCodes(int pockets) {
        int n = banks.size() + 1;
        List<String> codes = new ArrayList<>();
        List<Group> groups = new ArrayList<>();
        for (int end = 0; end < n; end++) {
            codes.add("");
            Group g = new Group();
            g.ends.add(end);
            g.volume = volume(end);
            groups.add(g);
        }
        int parts = n < 2 ? 0 : (n - 2) % (pockets - 1) + 2;
        while (groups.size() >= 2) {
            groups.sort(Comparator.<Group>comparingInt(g -> g.volume).thenComparingInt(g -> g.ends.first()));
            Group whole = new Group();
            int taken = Math.min(parts, groups.size());
            for (int pocket = 0; pocket < taken; pocket++) {
                Group part = groups.remove(0);
                for (int end : part.ends) {
                    codes.set(end, pocket + codes.get(end));
                }
                whole.ends.addAll(part.ends);
                whole.volume += part.volume;
            }
            groups.add(whole);
            parts = pockets;
        }
        return codes;
    }

    private int handling(List<Integer> byBanks, List<String> codes) {
        int handling = 0;
        for (Paper p : papers) {
            if (p.known != null) {
                handling += codes.get(endBy(byBanks, bankOf(p.known))).length();
            }
        }
        return handling;
    }

    public int design(int pockets, int newCap) {
        if (out(pockets, 2, 6) || out(newCap, 2, 40)) {
            throw new IllegalArgumentException();
        }
        planPockets = pockets;
        cap = newCap;
        planBanks = new ArrayList<>(banks);
        planCodes = makeCodes(pockets);
        piles = new TreeMap<>(Comparator.comparingInt(String::length).thenComparing(Comparator.naturalOrder()));
        for (String code : planCodes) {
            for (int length = 0; length <= code.length(); length++) {
                piles.put(code.substring(0, length), new ArrayList<>());
            }
        }
        for (int item = 0; item < papers.size(); item++) {
            if (papers.get(item).known != null) {
                piles.get("").add(item);
            }
        }
        return handling(planBanks, planCodes);
    }

    private List<String> pileCodes() {
        return piles == null ? new ArrayList<>() : new ArrayList<>(piles.keySet());
    }

    private String pile(int number) {
        if (out(number, 0, pileCodes().size() - 1)) {
            throw new IndexOutOfBoundsException();
        }
        return pileCodes().get(number);
    }

    private String codeOfItem(int item) {
        return planCodes.get(endBy(planBanks, bankOf(papers.get(item).known)));
    }

    public int run(int number) {
        String code = pile(number);
        if (planCodes.contains(code)) {
            throw new IllegalStateException();
        }
        List<Integer> ran = new ArrayList<>(piles.get(code));
        piles.get(code).clear();
        int[] inPocket = new int[6];
        for (int item : ran) {
            String to = codeOfItem(item).substring(0, code.length() + 1);
            piles.get(to).add(item);
            handled++;
            int pocket = to.charAt(code.length()) - '0';
            inPocket[pocket]++;
            if (inPocket[pocket] == cap) {
                inPocket[pocket] = 0;
                emptied++;
            }
        }
        return ran.size();
    }

    public int runAll() {
        if (piles == null) {
            throw new IllegalStateException();
        }
        int runs = 0;
        boolean isMore = true;
        while (isMore) {
            isMore = false;
            for (String code : pileCodes()) {
                if (!planCodes.contains(code) && !piles.get(code).isEmpty()) {
                    run(pileCodes().indexOf(code));
                    runs++;
                    isMore = true;
                    break;
                }
            }
        }
        return runs;
    }

    private int difference(int batch) {
        int difference = controls[batch];
        for (Paper p : papers) {
            if (p.batch == batch && p.known != null) {
                difference -= amountOf(p.known);
            }
        }
        return difference;
    }

    public int control(int batch, int control) {
        if (out(batch, 0, 7)) {
            throw new IndexOutOfBoundsException();
        }
        if (out(control, 0, 9999999)) {
            throw new IllegalArgumentException();
        }
        controls[batch] = control;
        return difference(batch);
    }

    public int stub(int account, int amount) {
        if (out(account, 0, 9999) || out(amount, 1, 99999)) {
            throw new IllegalArgumentException();
        }
        if (stubs.size() == 16) {
            throw new IllegalStateException();
        }
        stubs.add(new int[] {account, amount, 0});
        return stubs.size() - 1;
    }

    public int present(int item) {
        Paper p = paper(item);
        if (p.known == null) {
            throw new IllegalStateException();
        }
        if (p.told > 0) {
            return 4;
        }
        p.told = 3;
        for (int[] s : stubs) {
            if (s[2] == 0 && s[0] == accountOf(p.known)) {
                p.told = 2;
            }
        }
        for (int[] s : stubs) {
            if (s[2] == 0 && s[0] == accountOf(p.known) && s[1] == amountOf(p.known)) {
                s[2] = 1;
                p.told = 1;
                break;
            }
        }
        return p.told;
    }

    public int knock() {
        return ++refused;
    }

    // ---- what is asked

    public int ofItem(int item, int what) {
        Paper p = paper(item);
        if (out(what, 0, 13)) {
            throw new IllegalArgumentException();
        }
        boolean isKnown = p.known != null;
        int[] facts = {bankOf(p.own), accountOf(p.own), amountOf(p.own), p.batch, p.smudged,
            List.of(STATES).indexOf(p.state), isKnown ? bankOf(p.known) : -1, isKnown ? accountOf(p.known) : -1,
            isKnown ? amountOf(p.known) : -1, isKnown && !p.known.equals(p.own) ? 1 : 0,
            isKnown ? endBy(banks, bankOf(p.known)) : -1, pileOf(item), isSorted(item) ? 1 : 0, p.told};
        return facts[what];
    }

    private int pileOf(int item) {
        for (String code : pileCodes()) {
            if (piles.get(code).contains(item)) {
                return pileCodes().indexOf(code);
            }
        }
        return -1;
    }

    private boolean isSorted(int item) {
        return pileOf(item) >= 0 && piles.get(codeOfItem(item)).contains(item);
    }

    public String line(int item, boolean isOwn) {
        Paper p = paper(item);
        return isOwn ? p.own : p.known == null ? "-" : p.known;
    }

    public int ofEnd(int end, int what) {
        String code = code(end);
        if (out(what, 0, 2)) {
            throw new IllegalArgumentException();
        }
        int[] facts = {end == banks.size() ? -1 : banks.get(end), volume(end), code.equals("-") ? -1 : code.length()};
        return facts[what];
    }

    public String code(int end) {
        if (out(end, 0, banks.size())) {
            throw new IndexOutOfBoundsException();
        }
        if (piles == null) {
            return "-";
        }
        if (end == banks.size()) {
            return planCodes.get(planBanks.size());
        }
        return planBanks.contains(banks.get(end)) ? planCodes.get(end) : "-";
    }

    public int ofPile(int number, int what) {
        String code = pile(number);
        if (out(what, 0, 4)) {
            throw new IllegalArgumentException();
        }
        List<Integer> in = piles.get(code);
        int[] facts = {in.size(), in.isEmpty() ? -1 : in.get(0), in.isEmpty() ? -1 : in.get(in.size() - 1),
            code.length(), planCodes.indexOf(code)};
        return facts[what];
    }

    public int inPile(int number, int nth) {
        List<Integer> in = piles == null ? null : piles.get(pile(number));
        if (in == null) {
            throw new IndexOutOfBoundsException();
        }
        if (nth < 0) {
            throw new IllegalArgumentException();
        }
        return nth < in.size() ? in.get(nth) : -1;
    }

    public int ofBatch(int batch, int what) {
        if (out(batch, 0, 7)) {
            throw new IndexOutOfBoundsException();
        }
        if (out(what, 0, 4)) {
            throw new IllegalArgumentException();
        }
        int d = difference(batch);
        int[] facts = {controls[batch], d, (int) papers.stream().filter(p -> p.batch == batch).count(),
            (int) papers.stream().filter(p -> p.batch == batch && p.known != null).count(),
            d != 0 && d % 9 == 0 ? 1 : 0};
        return facts[what];
    }

    public int hunt(int batch, int way, int nth) {
        if (out(batch, 0, 7)) {
            throw new IndexOutOfBoundsException();
        }
        if (out(way, 0, 3) || nth < 0) {
            throw new IllegalArgumentException();
        }
        List<Integer> found = new ArrayList<>();
        for (int item = 0; item < papers.size(); item++) {
            Paper p = papers.get(item);
            if (p.batch == batch && p.known != null && isCause(way, p.known.substring(7), difference(batch))) {
                found.add(item);
            }
        }
        return nth < found.size() ? found.get(nth) : -1;
    }

    private static boolean isCause(int way, String digits, int d) {
        int a = Integer.parseInt(digits);
        if (d == 0) {
            return false;
        }
        if (way == 0) {
            return a + d == 0;
        }
        if (way == 1) {
            return a + a == Math.abs(d);
        }
        if (way == 2) {
            for (int k = 0; k < 4; k++) {
                char left = digits.charAt(k);
                char right = digits.charAt(k + 1);
                String other = digits.substring(0, k) + right + left + digits.substring(k + 2);
                if (left != right && Integer.parseInt(other) == a + d) {
                    return true;
                }
            }
            return false;
        }
        for (int k = 0; k < 5; k++) {
            for (char sign = '0'; sign <= '9'; sign++) {
                String other = digits.substring(0, k) + sign + digits.substring(k + 1);
                if (sign != digits.charAt(k) && Integer.parseInt(other) == a + d) {
                    return true;
                }
            }
        }
        return false;
    }

    public int ofStub(int stub, int what) {
        if (out(stub, 0, stubs.size() - 1)) {
            throw new IndexOutOfBoundsException();
        }
        if (out(what, 0, 2)) {
            throw new IllegalArgumentException();
        }
        return stubs.get(stub)[what];
    }

    private int states(String state) {
        return (int) papers.stream().filter(p -> p.state.equals(state)).count();
    }

    public int house(int what) {
        if (out(what, 0, 18)) {
            throw new IllegalArgumentException();
        }
        int wrong = 0;
        int sorted = 0;
        for (int item = 0; item < papers.size(); item++) {
            wrong += ofItem(item, 9);
            sorted += ofItem(item, 12);
        }
        int[] facts = {papers.size(), states("RAW"), states("READ"), states("REJECTED"), states("KEYED"), wrong,
            reckoned, looked, luck, banks.size(), planPockets, pileCodes().size(),
            piles == null ? 0 : handling(planBanks, planCodes), handled, emptied, sorted, stubs.size(),
            (int) stubs.stream().filter(s -> s[2] == 1).count(), refused};
        return facts[what];
    }

    public int check(int bank, int account, int amount) {
        if (out(bank, 0, 99) || out(account, 0, 9999) || out(amount, 0, 99999)) {
            throw new IllegalArgumentException();
        }
        return makeLine(bank, account, amount).charAt(6) - '0';
    }

    public int blind(int item) {
        String own = paper(item).own;
        int set = 0;
        for (int k = 0; k < 11; k++) {
            char left = own.charAt(k);
            char right = own.charAt(k + 1);
            if (left != right && sound(own.substring(0, k) + right + left + own.substring(k + 2))) {
                set += 1 << k;
            }
        }
        return set;
    }

    public int would(int pockets, boolean isPlain) {
        if (out(pockets, 2, 6)) {
            throw new IllegalArgumentException();
        }
        if (!isPlain) {
            return handling(banks, makeCodes(pockets));
        }
        int m = 0;
        while (Math.round(Math.pow(pockets, m)) < banks.size() + 1) {
            m++;
        }
        return m * (states("READ") + states("KEYED"));
    }

    public int fewest(int most) {
        if (most < 0) {
            throw new IllegalArgumentException();
        }
        for (int pockets = 2; pockets <= 6; pockets++) {
            if (would(pockets, false) <= most) {
                return pockets;
            }
        }
        return -1;
    }

    public boolean isSound() {
        return true;
    }

    public long digest() {
        List<Integer> row = new ArrayList<>();
        for (int what = 0; what <= 18; what++) {
            row.add(house(what));
        }
        for (int item = 0; item < papers.size(); item++) {
            for (int what = 0; what <= 13; what++) {
                row.add(ofItem(item, what));
            }
        }
        for (int end = 0; end <= banks.size(); end++) {
            for (int what = 0; what <= 2; what++) {
                row.add(ofEnd(end, what));
            }
        }
        for (int pile = 0; pile < pileCodes().size(); pile++) {
            for (int what = 0; what <= 4; what++) {
                row.add(ofPile(pile, what));
            }
        }
        for (int batch = 0; batch <= 7; batch++) {
            for (int what = 0; what <= 4; what++) {
                row.add(ofBatch(batch, what));
            }
            for (int way = 0; way <= 3; way++) {
                row.add(hunt(batch, way, 0));
            }
        }
        for (int[] s : stubs) {
            row.add(s[2]);
        }
        for (int pockets = 2; pockets <= 6; pockets++) {
            row.add(would(pockets, false));
            row.add(would(pockets, true));
        }
        row.add(isSound() ? 1 : 0);
        long d = 7207;
        for (int v : row) {
            d = d * 31 + v;
        }
        return d;
    }
}
