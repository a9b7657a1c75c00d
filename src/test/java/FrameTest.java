import java.util.ArrayList;
import java.util.Arrays;
import java.util.List;
import java.util.Map;
import java.util.TreeMap;

/** "Nothing is promised beyond the answers and state changes described": what a call is not said to change stays. */
public final class FrameTest {
    private static final String TEXT = "account a asset items foreign;account i income items;account e equity;account c cost;"
            + "post p{debit a x;rest i;}post q{debit c x;rest e;}";

    /** A call, and the parts of the ledger that it may change. */
    private record Step(String name, Check.Call call, String mayChange) { }

    public static void main(String[] args) {
        told();
        posted();
        Check.end("FrameTest");
    }

    private static void told() {
        SubLedger ledger = new SubLedger();
        ledger.setRate(4, 70);
        ledger.close(0);
        ledger.reopen(0);
        take(ledger, new Step("feed", () -> ledger.feed(0x20202020, 0x3b202020, 0x20202020, 0x20202020, 0x20202020), "tape"));
        take(ledger, new Step("trim", () -> ledger.trim(10), "tape"));
        take(ledger, new Step("teach of an error", ledger::teach, "tape errorAt"));
        Check.due("errorAt", 4, ledger::errorAt);
        Check.feed(ledger, TEXT);
        take(ledger, new Step("teach", ledger::teach, "tape errorAt accounts templates balances kept"));
        Check.due("accounts", 4, () -> ledger.count(0));
        Check.feed(ledger, "account b cost;");
        take(ledger, new Step("teach once more", ledger::teach, "tape accounts templates balances kept"));
        Check.due("accounts", 1, () -> ledger.count(0));
        answers(ledger);
    }

    private static void posted() {
        SubLedger ledger = Check.taught(TEXT);
        Check.teach(ledger, "account q ^");
        Check.feed(ledger, "account z");
        Check.due("errorAt", 10, ledger::errorAt);
        for (int n = 0; n < 12; n++) {
            ledger.post(n % 2, n % 5, n % 4 < 2 ? 100 + n : -100 - n, 0, 0);
        }
        Check.due("errorAt behind posting", 10, ledger::errorAt);
        ledger.setRate(2, 50);
        ledger.state(0);
        ledger.allocate(0, 4, 7);
        for (int round = 0; round < 2; round++) {
            for (Step step : steps(ledger)) {
                take(ledger, step);
            }
            answers(ledger);
        }
        Step post = new Step("post", () -> ledger.post(0, 11, 1, 0, 0), "entries+ voids+ reversals+ lines+ open+ balances");
        while (ledger.count(2) < 60) {
            take(ledger, post);
        }
        Check.due("a full one", IllegalStateException.class, post.call);
        Check.due("errorAt at last", 10, ledger::errorAt);
    }

    private static List<Step> steps(SubLedger ledger) {
        String entered = "entries+ voids+ reversals+ lines+ open+ balances";
        List<Step> all = new ArrayList<>();
        all.add(new Step("feed", () -> ledger.feed(1, 2, 3, 4, 5), "tape"));
        all.add(new Step("trim", () -> ledger.trim(ledger.count(7) - 1), "tape"));
        all.add(new Step("setRate", () -> ledger.setRate(6, ledger.period(6, 0) + 7), "rates"));
        all.add(new Step("post", () -> ledger.post(0, 7, 11, 12, 13), entered));
        all.add(new Step("match", () -> ledger.match(0), "open allocations"));
        all.add(new Step("match of the income", () -> ledger.match(1), "open allocations"));
        all.add(new Step("state", () -> ledger.state(1), "paper"));
        all.add(new Step("post", () -> ledger.post(1, 7, 5, 0, 0), entered));
        all.add(new Step("reverse", () -> ledger.reverse(ledger.count(2) - 1, 8), entered.replace("reversals+", "reversals")));
        for (int n = 0; n < 5; n++) {
            all.add(new Step("close", () -> ledger.close(ledger.count(6)), entered + " closed times kept"));
        }
        all.add(new Step("undo", () -> ledger.undo(0), "open allocations"));
        all.add(new Step("allocate", () -> ledger.allocate(4, 0, 3), "open allocations"));
        all.add(new Step("state", () -> ledger.state(0), "paper"));
        for (int n = 0; n < 5; n++) {
            all.add(new Step("reopen", () -> ledger.reopen(ledger.count(6) - 1), "voids closed balances"));
        }
        all.add(new Step("state", () -> ledger.state(2), "paper"));
        return all;
    }

    /** The calls that only answer. */
    private static void answers(SubLedger ledger) {
        List<Step> all = new ArrayList<>();
        all.add(new Step("errorAt", ledger::errorAt, ""));
        all.add(new Step("count", () -> ledger.count(3), ""));
        all.add(new Step("account", () -> ledger.account(0, 4), ""));
        all.add(new Step("entry", () -> ledger.entry(0, 6), ""));
        all.add(new Step("line", () -> ledger.line(0, 4), ""));
        all.add(new Step("balance", () -> ledger.balance(0, 5, true), ""));
        all.add(new Step("trial", () -> ledger.trial(3, 11), ""));
        all.add(new Step("owed", () -> ledger.owed(0, 0, 11), ""));
        all.add(new Step("exact", () -> ledger.exact(0), ""));
        all.add(new Step("period", () -> ledger.period(2, 2), ""));
        all.add(new Step("restated", () -> ledger.restated(0, 2), ""));
        all.add(new Step("would", () -> ledger.would(0, 9, 1, 2, 3, 1), ""));
        all.add(new Step("solve", () -> ledger.solve(0, 9, 1, -77), ""));
        all.add(new Step("byteAt", () -> ledger.byteAt(0), ""));
        all.add(new Step("cleared", ledger::cleared, ""));
        all.add(new Step("digest", ledger::digest, ""));
        for (Step step : all) {
            take(ledger, step);
        }
    }

    /** Takes a step; a part with a + may get longer, and what it held before stays ahead. */
    private static void take(SubLedger ledger, Step step) {
        Map<String, List<Long>> before = parts(ledger);
        Check.answerOf(step.call);
        Map<String, List<Long>> behind = parts(ledger);
        List<String> mayChange = Arrays.asList(step.mayChange.split(" "));
        for (String part : before.keySet()) {
            List<Long> was = before.get(part);
            List<Long> is = behind.get(part);
            if (mayChange.contains(part + "+")) {
                Check.due(part + " behind " + step.name, was, () -> is.subList(0, Math.min(was.size(), is.size())));
            } else if (!mayChange.contains(part)) {
                Check.due(part + " behind " + step.name, was, () -> is);
            }
        }
    }

    private static Map<String, List<Long>> parts(SubLedger ledger) {
        Map<String, List<Long>> parts = new TreeMap<>();
        add(parts, "tape", ledger.count(7));
        add(parts, "errorAt", ledger.errorAt());
        add(parts, "allocations", ledger.count(5));
        add(parts, "templates", ledger.count(1));
        add(parts, "closed", ledger.count(6));
        add(parts, "paper", ledger.count(8));
        for (int i = 0; i < ledger.count(8); i++) {
            add(parts, "paper", ledger.byteAt(i));
        }
        add(parts, "balances", 0);
        add(parts, "kept", 0);
        add(parts, "accounts", ledger.count(0));
        for (int a = 0; a < ledger.count(0); a++) {
            addAccount(parts, ledger, a);
        }
        for (int p = 0; p < 12; p++) {
            add(parts, "rates", ledger.period(p, 0));
            add(parts, "closed", ledger.period(p, 1));
            add(parts, "times", ledger.period(p, 3));
        }
        addEntries(parts, ledger);
        return parts;
    }

    private static void addAccount(Map<String, List<Long>> parts, SubLedger ledger, int account) {
        for (int what = 0; what < 3; what++) {
            add(parts, "accounts", ledger.account(account, what));
        }
        for (int p = 0; p < 12; p++) {
            add(parts, "balances", ledger.balance(account, p, false));
            add(parts, "balances", ledger.balance(account, p, true));
            add(parts, "kept", ledger.period(p, 3) == 0 ? 0 : ledger.balance(account, p, false) - ledger.restated(account, p));
        }
    }

    private static void addEntries(Map<String, List<Long>> parts, SubLedger ledger) {
        for (String part : new String[] {"entries", "voids", "reversals", "lines", "open"}) {
            parts.put(part, new ArrayList<>());
        }
        for (int e = 0; e < ledger.count(2); e++) {
            for (int what = 0; what < 5; what++) {
                add(parts, "entries", ledger.entry(e, what));
            }
            add(parts, "voids", ledger.entry(e, 5));
            add(parts, "reversals", ledger.entry(e, 6));
        }
        for (int l = 0; l < ledger.count(4); l++) {
            for (int what = 0; what < 4; what++) {
                add(parts, "lines", ledger.line(l, what));
            }
            add(parts, "open", ledger.line(l, 4));
        }
    }

    private static void add(Map<String, List<Long>> parts, String part, long value) {
        parts.computeIfAbsent(part, key -> new ArrayList<>()).add(value);
    }
}
