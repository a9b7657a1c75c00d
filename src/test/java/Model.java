import java.util.ArrayList;
import java.util.Arrays;
import java.util.HashMap;
import java.util.List;
import java.util.Map;

/** A second, slow building of the document, for ModelTest: it keeps what happened and adds it up anew each time. */
final class Model {
    static final class Entry {
        int period;
        int kind;
        int source;
        int first;
        int lines;
        boolean isVoid;
        int reversal = -1;
        String word;
    }

    record Line(int entry, int account, long amount, long foreign) { }

    record Allocation(int a, int b, int amount) { }

    private String tape = "";
    private String paper = "";
    private int errorAt = -1;
    private List<ModelText.Account> accounts = new ArrayList<>();
    private List<ModelText.Template> templates = new ArrayList<>();
    private final List<Entry> entries = new ArrayList<>();
    private final List<Line> lines = new ArrayList<>();
    private final List<Allocation> allocations = new ArrayList<>();
    private final int[] rates = new int[12];
    private final boolean[] closed = new boolean[12];
    private final int[] closings = new int[12];
    private final Map<String, Integer> kept = new HashMap<>();

    Model() {
        Arrays.fill(rates, 100);
    }

    private static void bound(boolean isRight) {
        if (!isRight) {
            throw new IndexOutOfBoundsException();
        }
    }

    private static void argument(boolean isRight) {
        if (!isRight) {
            throw new IllegalArgumentException();
        }
    }

    private static void state(boolean isRight) {
        if (!isRight) {
            throw new IllegalStateException();
        }
    }

    private static boolean in(int value, int from, int to) {
        return from <= value && value <= to;
    }

    private void boundAccount(int account) {
        bound(in(account, 0, accounts.size() - 1));
    }

    private static void boundPeriod(int period) {
        bound(in(period, 0, 11));
    }

    int feed(int... five) {
        state(tape.length() + 20 <= 2000);
        StringBuilder more = new StringBuilder(tape);
        for (int number : five) {
            more.append((char) (number >>> 24)).append((char) (number >>> 16 & 255));
            more.append((char) (number >>> 8 & 255)).append((char) (number & 255));
        }
        tape = more.toString();
        return tape.length();
    }

    int trim(int n) {
        argument(in(n, 0, tape.length()));
        tape = tape.substring(0, n);
        return n;
    }

    int teach() {
        state(entries.isEmpty() && !closed[0]);
        ModelText text = new ModelText(tape);
        tape = "";
        errorAt = text.errorAt;
        if (text.error == 0) {
            accounts = text.accounts;
            templates = text.templates;
        }
        return text.error;
    }

    int errorAt() {
        return errorAt;
    }

    int count(int what) {
        bound(in(what, 0, 8));
        int closedOnes = 0;
        for (boolean one : closed) {
            closedOnes += one ? 1 : 0;
        }
        int[] all = {accounts.size(), templates.size(), entries.size(), (int) entries.stream().filter(e -> e.isVoid).count(),
            lines.size(), allocations.size(), closedOnes, tape.length(), paper.length()};
        return all[what];
    }

    int account(int account, int what) {
        boundAccount(account);
        bound(in(what, 0, 5));
        ModelText.Account asked = accounts.get(account);
        switch (what) {
            case 0: return asked.kind();
            case 1: return asked.items() ? 1 : 0;
            case 2: return asked.foreign() ? 1 : 0;
            case 3: return (int) lines.stream().filter(l -> l.account == account && !entries.get(l.entry).isVoid).count();
            default:
                int sum = 0;
                for (int i = 0; i < lines.size(); i++) {
                    boolean isSide = what == 4 ? lines.get(i).amount > 0 : lines.get(i).amount < 0;
                    sum += lines.get(i).account == account && isSide ? open(i) : 0;
                }
                return sum;
        }
    }

    private int allocated(int line) {
        int sum = 0;
        for (Allocation one : allocations) {
            sum += one.a == line || one.b == line ? one.amount : 0;
        }
        return sum;
    }

    private boolean isAllocatable(int line) {
        Entry entry = entries.get(lines.get(line).entry);
        return accounts.get(lines.get(line).account).items() && entry.kind < 2 && !entry.isVoid;
    }

    private int open(int line) {
        return isAllocatable(line) ? (int) Math.abs(lines.get(line).amount) - allocated(line) : 0;
    }

    int setRate(int period, int rate) {
        boundPeriod(period);
        argument(in(rate, 1, 200));
        state(!closed[period]);
        int before = rates[period];
        rates[period] = rate;
        return before;
    }

    private long sum(int account, int period, boolean isForeign) {
        long sum = 0;
        for (Line line : lines) {
            Entry entry = entries.get(line.entry);
            if (line.account == account && entry.period <= period && !entry.isVoid) {
                sum += isForeign ? line.foreign : line.amount;
            }
        }
        return sum;
    }

    private int numberOf(String name) {
        for (int i = 0; i < accounts.size(); i++) {
            if (accounts.get(i).name().equals(name)) {
                return i;
            }
        }
        throw new AssertionError(name);
    }

    private static boolean isAmount(long value) {
        return -1000000 <= value && value <= 1000000;
    }

    /** The lines of a posting, as {account, amount, foreign}; null if it cannot be made. */
    private List<long[]> posting(int template, int period, int x, int y, int z) {
        ModelText.Template used = templates.get(template);
        ModelText.Env env = new ModelText.Env(x, y, z, period, rates[period],
                name -> (int) sum(numberOf(name), period, false));
        List<long[]> made = new ArrayList<>();
        long total = 0;
        boolean isRight = !closed[period];
        for (ModelText.Line line : used.lines()) {
            if (line.test().in(env)) {
                long value = line.credit() ? -(long) line.sum().in(env) : line.sum().in(env);
                boolean isForeign = accounts.get(numberOf(line.account())).foreign();
                long amount = isForeign ? value * rates[period] / 100 : value;
                isRight &= isAmount(value) && isAmount(amount);
                total += amount;
                if (amount != 0 || isForeign && value != 0) {
                    made.add(new long[] {numberOf(line.account()), amount, isForeign ? value : 0});
                }
            }
        }
        if (used.rest() != null && total != 0) {
            boolean isForeign = accounts.get(numberOf(used.rest())).foreign();
            long foreign = isForeign ? -total * 100 / rates[period] : 0;
            isRight &= isAmount(total) && isAmount(foreign);
            made.add(new long[] {numberOf(used.rest()), -total, foreign});
            total = 0;
        }
        isRight &= total == 0 && !made.isEmpty() && entries.size() < 60 && lines.size() + made.size() <= 300;
        return isRight ? made : null;
    }

    private int enter(int period, int kind, int source, String word, List<long[]> made) {
        Entry entry = new Entry();
        entry.period = period;
        entry.kind = kind;
        entry.source = source;
        entry.word = word;
        entry.first = lines.size();
        entry.lines = made.size();
        entries.add(entry);
        for (long[] line : made) {
            lines.add(new Line(entries.size() - 1, (int) line[0], line[1], line[2]));
        }
        return entries.size() - 1;
    }

    int post(int template, int period, int x, int y, int z) {
        bound(in(template, 0, templates.size() - 1));
        boundPeriod(period);
        argument(in(x, -100000, 100000) && in(y, -100000, 100000) && in(z, -100000, 100000));
        List<long[]> made = posting(template, period, x, y, z);
        state(made != null);
        return enter(period, 0, template, templates.get(template).name(), made);
    }

    int reverse(int entry, int period) {
        bound(in(entry, 0, entries.size() - 1));
        boundPeriod(period);
        Entry old = entries.get(entry);
        state(!closed[period] && old.kind == 0 && old.reversal < 0 && !old.isVoid);
        List<long[]> made = new ArrayList<>();
        for (int i = old.first; i < old.first + old.lines; i++) {
            state(allocated(i) == 0);
            made.add(new long[] {lines.get(i).account, -lines.get(i).amount, -lines.get(i).foreign});
        }
        state(entries.size() < 60 && lines.size() + made.size() <= 300);
        old.reversal = enter(period, 1, entry, "reversal", made);
        return old.reversal;
    }

    int entry(int entry, int what) {
        bound(in(entry, 0, entries.size() - 1));
        bound(in(what, 0, 6));
        Entry asked = entries.get(entry);
        return new int[] {asked.period, asked.kind, asked.source, asked.first, asked.lines, asked.isVoid ? 1 : 0,
            asked.reversal}[what];
    }

    int line(int line, int what) {
        bound(in(line, 0, lines.size() - 1));
        bound(in(what, 0, 4));
        Line asked = lines.get(line);
        return new int[] {asked.entry, asked.account, (int) asked.amount, (int) asked.foreign, open(line)}[what];
    }

    int balance(int account, int period, boolean isForeign) {
        boundAccount(account);
        boundPeriod(period);
        return isForeign && !accounts.get(account).foreign() ? 0 : (int) sum(account, period, isForeign);
    }

    int trial(int kind, int period) {
        bound(in(kind, 0, 4));
        boundPeriod(period);
        long sum = 0;
        for (int i = 0; i < accounts.size(); i++) {
            sum += accounts.get(i).kind() == kind ? sum(i, period, false) : 0;
        }
        return (int) sum;
    }

    int allocate(int a, int b, int amount) {
        bound(in(a, 0, lines.size() - 1) && in(b, 0, lines.size() - 1));
        argument(amount >= 1);
        long product = lines.get(a).amount * lines.get(b).amount;
        state(product < 0 && lines.get(a).account == lines.get(b).account && isAllocatable(a) && isAllocatable(b));
        state(amount <= open(a) && amount <= open(b) && allocations.size() < 60);
        allocations.add(new Allocation(a, b, amount));
        return allocations.size();
    }

    int match(int account) {
        boundAccount(account);
        int sum = 0;
        for (int a = 0; a < lines.size(); a++) {
            for (int b = 0; b < lines.size(); b++) {
                boolean isPair = lines.get(a).account == account && lines.get(b).account == account
                        && lines.get(a).amount > 0 && lines.get(b).amount < 0;
                int amount = Math.min(open(a), open(b));
                if (isPair && amount > 0 && allocations.size() < 60) {
                    allocations.add(new Allocation(a, b, amount));
                    sum += amount;
                }
            }
        }
        return sum;
    }

    int undo(int line) {
        bound(in(line, 0, lines.size() - 1));
        int sum = allocated(line);
        allocations.removeIf(one -> one.a == line || one.b == line);
        return sum;
    }

    int owed(int account, int from, int to) {
        boundAccount(account);
        boundPeriod(from);
        boundPeriod(to);
        int sum = 0;
        for (int i = 0; i < lines.size(); i++) {
            if (lines.get(i).account == account && in(entries.get(lines.get(i).entry).period, from, to)) {
                sum += Long.signum(lines.get(i).amount) * open(i);
            }
        }
        return sum;
    }

    int exact(int line) {
        bound(in(line, 0, lines.size() - 1));
        List<Integer> amounts = new ArrayList<>();
        for (int i = 0; i < lines.size(); i++) {
            if (lines.get(i).account == lines.get(line).account && open(i) > 0 && amounts.size() < 10
                    && Long.signum(lines.get(i).amount) == -Long.signum(lines.get(line).amount)) {
                amounts.add(open(i));
            }
        }
        for (int size = 1; size <= amounts.size() && open(line) > 0; size++) {
            for (int set = 0; set < 1024; set++) {
                int sum = 0;
                for (int k = 0; k < 10; k++) {
                    boolean isIn = (set & 1 << k) != 0;
                    sum += !isIn ? 0 : k < amounts.size() ? amounts.get(k) : 1 << 30;
                }
                if (Integer.bitCount(set) == size && sum == open(line)) {
                    return set;
                }
            }
        }
        return -1;
    }

    private int firstOf(int kind) {
        for (int i = 0; i < accounts.size(); i++) {
            if (accounts.get(i).kind() == kind) {
                return i;
            }
        }
        return -1;
    }

    private static void addLast(List<long[]> made, int account) {
        long sum = 0;
        for (long[] line : made) {
            sum += line[1];
        }
        if (sum != 0) {
            made.add(new long[] {account, -sum, 0});
        }
    }

    /** Makes the entries at once, and takes them back if they are too many. */
    int close(int period) {
        boundPeriod(period);
        int firstOpen = 0;
        while (firstOpen < 12 && closed[firstOpen]) {
            firstOpen++;
        }
        state(period == firstOpen);
        int entriesBefore = entries.size();
        int linesBefore = lines.size();
        makeRevaluation(period);
        makeResult(period);
        int made = lines.size() - linesBefore;
        if (entries.size() > 60 || lines.size() > 300) {
            entries.subList(entriesBefore, entries.size()).clear();
            lines.subList(linesBefore, lines.size()).clear();
            throw new IllegalStateException();
        }
        for (int i = 0; i < accounts.size(); i++) {
            kept.putIfAbsent(period + " " + accounts.get(i).name(), (int) sum(i, period, false));
        }
        closed[period] = true;
        closings[period]++;
        return made;
    }

    private void makeRevaluation(int period) {
        if (firstOf(3) < 0) {
            return;
        }
        List<long[]> made = new ArrayList<>();
        for (int i = 0; i < accounts.size(); i++) {
            long amount = sum(i, period, true) * rates[period] / 100 - sum(i, period, false);
            if (accounts.get(i).foreign() && amount != 0) {
                made.add(new long[] {i, amount, 0});
            }
        }
        addLast(made, firstOf(3));
        if (!made.isEmpty()) {
            enter(period, 2, -1, "revaluation", made);
        }
    }

    private void makeResult(int period) {
        if (firstOf(2) < 0 || period != 3 && period != 7 && period != 11) {
            return;
        }
        List<long[]> made = new ArrayList<>();
        for (int i = 0; i < accounts.size(); i++) {
            long amount = -sum(i, period, false);
            if (accounts.get(i).kind() >= 3 && amount != 0) {
                made.add(new long[] {i, amount, 0});
            }
        }
        addLast(made, firstOf(2));
        if (!made.isEmpty()) {
            enter(period, 3, -1, "result", made);
        }
    }

    int reopen(int period) {
        boundPeriod(period);
        state(closed[period] && (period == 11 || !closed[period + 1]));
        closed[period] = false;
        int sum = 0;
        for (Entry entry : entries) {
            if (entry.period == period && entry.kind >= 2 && !entry.isVoid) {
                entry.isVoid = true;
                sum += entry.lines;
            }
        }
        return sum;
    }

    int period(int period, int what) {
        boundPeriod(period);
        bound(in(what, 0, 3));
        int entriesOfIt = (int) entries.stream().filter(e -> e.period == period && !e.isVoid).count();
        return new int[] {rates[period], closed[period] ? 1 : 0, entriesOfIt, closings[period]}[what];
    }

    int restated(int account, int period) {
        boundAccount(account);
        boundPeriod(period);
        if (closings[period] == 0) {
            return 0;
        }
        return (int) sum(account, period, false) - kept.getOrDefault(period + " " + accounts.get(account).name(), 0);
    }

    int would(int template, int period, int x, int y, int z, int account) {
        bound(in(template, 0, templates.size() - 1) && in(account, 0, accounts.size() - 1));
        boundPeriod(period);
        argument(in(x, -100000, 100000) && in(y, -100000, 100000) && in(z, -100000, 100000));
        return (int) behind(posting(template, period, x, y, z), period, account);
    }

    private long behind(List<long[]> made, int period, int account) {
        long sum = sum(account, period, false);
        if (made != null) {
            for (long[] line : made) {
                sum += line[0] == account ? line[1] : 0;
            }
        }
        return sum;
    }

    int solve(int template, int period, int account, int goal) {
        bound(in(template, 0, templates.size() - 1) && in(account, 0, accounts.size() - 1));
        boundPeriod(period);
        argument(in(goal, -1000000, 1000000));
        int best = -1;
        long least = Long.MAX_VALUE;
        for (int x = 200; x >= 0; x--) {
            List<long[]> made = posting(template, period, x, 0, 0);
            long distance = Math.abs(behind(made, period, account) - goal);
            if (made != null && distance <= least) {
                least = distance;
                best = x;
            }
        }
        return best;
    }

    int state(int account) {
        boundAccount(account);
        paper = "";
        for (Line line : lines) {
            Entry entry = entries.get(line.entry);
            if (line.account == account && !entry.isVoid) {
                paper += entry.period + " " + entry.word + " " + line.amount
                        + (accounts.get(account).foreign() ? " " + line.foreign : "") + "\n";
            }
        }
        return paper.length();
    }

    int byteAt(int index) {
        bound(in(index, 0, paper.length() - 1));
        return paper.charAt(index);
    }

    double cleared() {
        double allocated = 0;
        double whole = 0;
        for (int i = 0; i < lines.size(); i++) {
            if (isAllocatable(i)) {
                allocated += allocated(i);
                whole += Math.abs(lines.get(i).amount);
            }
        }
        return whole == 0 ? 0 : allocated / whole;
    }

    long digest() {
        List<Integer> told = new ArrayList<>();
        for (int what = 0; what < 9; what++) {
            told.add(count(what));
        }
        for (int i = 0; i < accounts.size(); i++) {
            for (int what = 0; what < 6; what++) {
                told.add(account(i, what));
            }
            for (int p = 0; p < 12; p++) {
                told.addAll(List.of(balance(i, p, false), balance(i, p, true), restated(i, p)));
            }
        }
        for (int i = 0; i < entries.size(); i++) {
            for (int what = 0; what < 7; what++) {
                told.add(entry(i, what));
            }
        }
        for (int i = 0; i < lines.size(); i++) {
            for (int what = 0; what < 5; what++) {
                told.add(line(i, what));
            }
        }
        for (int p = 0; p < 12; p++) {
            for (int what = 0; what < 4; what++) {
                told.add(period(p, what));
            }
        }
        for (int i = 0; i < paper.length(); i++) {
            told.add((int) paper.charAt(i));
        }
        long d = 643;
        for (int x : told) {
            d = d * 31 + x;
        }
        return d;
    }
}
