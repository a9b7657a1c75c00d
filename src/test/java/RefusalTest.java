import java.util.ArrayList;
import java.util.List;

/** "A method that throws an exception changes nothing. If several exceptions apply, the one that is named first is thrown." */
public final class RefusalTest {
    private static final String TEXT = "account a asset items foreign;account i income items;account e equity;account c cost;"
            + "post p{debit a x;rest i;}post q{debit c x;credit e y;}post r{" + "debit c 1;".repeat(7) + "rest e;}";
    /** No number of anything, whatever it is. */
    private static final int[] BAD = {Integer.MIN_VALUE, -1, 20000, Integer.MAX_VALUE};
    private static final int BAD_INPUT = 100001;

    private static final Class<?> BOUNDS = IndexOutOfBoundsException.class;
    private static final Class<?> ARGUMENT = IllegalArgumentException.class;
    private static final Class<?> STATE = IllegalStateException.class;

    /** A call that has to be refused, and how. */
    private record Refused(String what, Class<?> how, Check.Call call) { }

    public static void main(String[] args) {
        refusedInEachState();
        boundsFirst();
        argumentsFirst();
        refusedTeach();
        twinsStayTheSame();
        Check.end("RefusalTest");
    }

    /** A ledger that is new (0), told (1), posted to (2), closed in part (3), closed up (4), or full (5). */
    private static SubLedger inState(int state) {
        if (state == 0) {
            return new SubLedger();
        }
        SubLedger ledger = Check.taught(TEXT);
        for (int n = 0; n < (state == 5 ? 59 : state == 1 ? 0 : 4); n++) {
            ledger.post(0, 3, n % 2 == 0 ? 10 + n : -10, 0, 0);
        }
        if (state >= 3) {
            ledger.setRate(3, 150);
            ledger.match(0);
            ledger.state(0);
            for (int p = 0; p < (state == 4 ? 12 : 3); p++) {
                ledger.close(p);
            }
        }
        ledger.feed(0x6163636f, 0x756e7420, 0x71206465, 0x62743b20, 0x3b202020);
        return ledger;
    }

    private static List<Refused> refused(SubLedger ledger) {
        List<Refused> all = new ArrayList<>();
        for (int bad : BAD) {
            all.add(new Refused("trim", ARGUMENT, () -> ledger.trim(bad)));
            all.add(new Refused("count", BOUNDS, () -> ledger.count(bad)));
            all.add(new Refused("account", BOUNDS, () -> ledger.account(bad, 0)));
            all.add(new Refused("account, what", BOUNDS, () -> ledger.account(0, bad)));
            all.add(new Refused("setRate", BOUNDS, () -> ledger.setRate(bad, 50)));
            all.add(new Refused("post, template", BOUNDS, () -> ledger.post(bad, 3, 1, 1, 1)));
            all.add(new Refused("post, period", BOUNDS, () -> ledger.post(0, bad, 1, 1, 1)));
            all.add(new Refused("reverse", BOUNDS, () -> ledger.reverse(bad, 3)));
            all.add(new Refused("reverse, period", BOUNDS, () -> ledger.reverse(0, bad)));
            all.add(new Refused("entry", BOUNDS, () -> ledger.entry(bad, 0)));
            all.add(new Refused("line", BOUNDS, () -> ledger.line(bad, 0)));
            all.add(new Refused("balance", BOUNDS, () -> ledger.balance(0, bad, true)));
            all.add(new Refused("trial", BOUNDS, () -> ledger.trial(bad, 0)));
            all.add(new Refused("allocate", BOUNDS, () -> ledger.allocate(bad, 1, 1)));
            all.add(new Refused("allocate, b", BOUNDS, () -> ledger.allocate(0, bad, 1)));
            all.add(new Refused("match", BOUNDS, () -> ledger.match(bad)));
            all.add(new Refused("undo", BOUNDS, () -> ledger.undo(bad)));
            all.add(new Refused("owed", BOUNDS, () -> ledger.owed(0, bad, 3)));
            all.add(new Refused("exact", BOUNDS, () -> ledger.exact(bad)));
            all.add(new Refused("close", BOUNDS, () -> ledger.close(bad)));
            all.add(new Refused("reopen", BOUNDS, () -> ledger.reopen(bad)));
            all.add(new Refused("period", BOUNDS, () -> ledger.period(bad, 0)));
            all.add(new Refused("restated", BOUNDS, () -> ledger.restated(0, bad)));
            all.add(new Refused("would", BOUNDS, () -> ledger.would(0, bad, 0, 0, 0, 0)));
            all.add(new Refused("solve", BOUNDS, () -> ledger.solve(0, bad, 0, 0)));
            all.add(new Refused("state", BOUNDS, () -> ledger.state(bad)));
            all.add(new Refused("byteAt", BOUNDS, () -> ledger.byteAt(bad)));
        }
        return all;
    }

    private static void addOfState(List<Refused> all, SubLedger ledger, int state) {
        if (state >= 1) {
            all.add(new Refused("post, input", ARGUMENT, () -> ledger.post(0, 3, BAD_INPUT, 0, 0)));
            all.add(new Refused("would, input", ARGUMENT, () -> ledger.would(0, 3, 0, 0, -BAD_INPUT, 0)));
            all.add(new Refused("solve, goal", ARGUMENT, () -> ledger.solve(0, 3, 0, 1000001)));
            all.add(new Refused("post, no balance", STATE, () -> ledger.post(1, 5, 1, 2, 0)));
            all.add(new Refused("post, no line", STATE, () -> ledger.post(0, 5, 0, 0, 0)));
        }
        if (state >= 2) {
            all.add(new Refused("teach", STATE, ledger::teach));
            all.add(new Refused("allocate, amount", ARGUMENT, () -> ledger.allocate(0, 2, 0)));
            all.add(new Refused("allocate, sides", STATE, () -> ledger.allocate(0, 0, 1)));
        }
        if (state >= 3) {
            all.add(new Refused("setRate, closed", STATE, () -> ledger.setRate(0, 50)));
            all.add(new Refused("post, closed", STATE, () -> ledger.post(0, 2, 5, 0, 0)));
            all.add(new Refused("reverse, closed", STATE, () -> ledger.reverse(0, 2)));
            all.add(new Refused("reverse, allocated", STATE, () -> ledger.reverse(0, 5)));
            all.add(new Refused("close, closed", STATE, () -> ledger.close(0)));
            all.add(new Refused("reopen, not the last", STATE, () -> ledger.reopen(0)));
        }
        if (state == 5) {
            all.add(new Refused("close, no room", STATE, () -> ledger.close(3)));
        }
        all.add(new Refused("setRate, rate", ARGUMENT, () -> ledger.setRate(11, 0)));
        all.add(new Refused("setRate, rate", ARGUMENT, () -> ledger.setRate(0, 201)));
        if (state < 3) {
            all.add(new Refused("close, not the first", STATE, () -> ledger.close(1)));
            all.add(new Refused("reopen, none", STATE, () -> ledger.reopen(0)));
        }
    }

    private static void refusedInEachState() {
        for (int state = 0; state <= 5; state++) {
            SubLedger ledger = inState(state);
            List<Refused> all = refused(ledger);
            addOfState(all, ledger, state);
            long before = ledger.digest();
            int errorAt = ledger.errorAt();
            for (Refused one : all) {
                String label = one.what + " in state " + state;
                Check.due(label, one.how, one.call);
                Check.due("digest behind " + label, before, ledger::digest);
                Check.due("errorAt behind " + label, errorAt, ledger::errorAt);
            }
        }
    }

    /** A number that is out of bounds, with wrong arguments and states besides. */
    private static void boundsFirst() {
        SubLedger ledger = inState(4);
        for (int bad : BAD) {
            Check.outOfBounds("setRate", () -> ledger.setRate(bad, 0));
            Check.outOfBounds("post, template", () -> ledger.post(bad, 0, BAD_INPUT, 0, 0));
            Check.outOfBounds("post, period", () -> ledger.post(0, bad, 0, BAD_INPUT, 0));
            Check.outOfBounds("post, both", () -> ledger.post(bad, bad, 0, 0, BAD_INPUT));
            Check.outOfBounds("reverse, of a reversal", () -> ledger.reverse(0, bad));
            Check.outOfBounds("reverse, in a closed one", () -> ledger.reverse(bad, 0));
            Check.outOfBounds("allocate, of nothing", () -> ledger.allocate(bad, 0, 0));
            Check.outOfBounds("allocate, of nothing", () -> ledger.allocate(0, bad, -1));
            Check.outOfBounds("close, when all are", () -> ledger.close(bad));
            Check.outOfBounds("would, template", () -> ledger.would(bad, 0, BAD_INPUT, 0, 0, 0));
            Check.outOfBounds("would, period", () -> ledger.would(0, bad, BAD_INPUT, 0, 0, 0));
            Check.outOfBounds("would, account", () -> ledger.would(0, 0, BAD_INPUT, 0, 0, bad));
            Check.outOfBounds("solve, template", () -> ledger.solve(bad, 0, 0, 1000001));
            Check.outOfBounds("solve, period", () -> ledger.solve(0, bad, 0, 1000001));
            Check.outOfBounds("solve, account", () -> ledger.solve(0, 0, bad, 1000001));
            Check.outOfBounds("reopen, when none is closed", () -> new SubLedger().reopen(bad));
        }
    }

    /** A wrong argument, with wrong states besides. */
    private static void argumentsFirst() {
        SubLedger ledger = inState(4);
        for (int p = 0; p < 12; p++) {
            int period = p;
            Check.badArgument("setRate of a closed one", () -> ledger.setRate(period, 201));
            Check.badArgument("post in a closed one", () -> ledger.post(0, period, BAD_INPUT, 0, 0));
            Check.badArgument("would in a closed one", () -> ledger.would(0, period, 0, -BAD_INPUT, 0, 0));
            Check.badArgument("solve in a closed one", () -> ledger.solve(0, period, 0, -1000001));
        }
        Check.badArgument("allocate 0 of a line to itself", () -> ledger.allocate(0, 0, 0));
        Check.badArgument("allocate 0 of two accounts", () -> ledger.allocate(0, 1, 0));
        Check.badArgument("allocate -1 of a closing's line", () -> ledger.allocate(0, ledger.count(4) - 1, -1));
        SubLedger full = inState(5);
        full.post(0, 3, 5, 0, 0);
        Check.badArgument("post of the 61st", () -> full.post(0, 3, 0, 0, BAD_INPUT));
        Check.badState("the 61st", () -> full.post(0, 3, 1, 0, 0));
    }

    /** A teach that is refused leaves the tape, and what it told last, as they were. */
    private static void refusedTeach() {
        SubLedger ledger = Check.taught(TEXT);
        Check.due("an error", 1, () -> Check.teach(ledger, "  account a ;"));
        ledger.close(0);
        Check.feed(ledger, "account q cost;");
        Check.badState("teach", ledger::teach);
        Check.due("errorAt stays", 12, ledger::errorAt);
        Check.due("tape stays", 15, () -> ledger.count(7));
        Check.due("accounts stay", 4, () -> ledger.count(0));
        ledger.reopen(0);
        Check.due("what the tape held", 0, ledger::teach);
        Check.due("its account", 4, () -> ledger.account(0, 0));
        Check.due("errorAt behind it", -1, ledger::errorAt);
        SubLedger posted = Check.taught(TEXT);
        posted.post(0, 11, 5, 0, 0);
        posted.reverse(0, 11);
        Check.badState("teach with entries that cancel out", posted::teach);
        Check.badState("teach with an empty tape", posted::teach);
    }

    /** Two ledgers of the same calls, of which one gets many more that are refused, tell the same all along. */
    private static void twinsStayTheSame() {
        for (int state = 0; state <= 5; state++) {
            SubLedger plain = inState(state);
            SubLedger bothered = inState(state);
            for (int step = 0; step < 20; step++) {
                List<Refused> all = refused(bothered);
                for (int n = step; n < all.size(); n += 20) {
                    Check.due(all.get(n).what, all.get(n).how, all.get(n).call);
                }
                Object want = Check.answerOf(() -> taken(plain, 0));
                int number = step;
                Check.due("step " + step, want, () -> taken(bothered, 0));
                Check.due("step " + step, Check.answerOf(() -> taken(plain, number)), () -> taken(bothered, number));
                Check.due("digest behind step " + step, plain.digest(), bothered::digest);
            }
        }
    }

    private static long taken(SubLedger ledger, int step) {
        switch (step % 7) {
            case 0: return ledger.count(2);
            case 1: return ledger.post(0, 3, step, 0, 0);
            case 2: return ledger.close(ledger.count(6));
            case 3: return ledger.match(0);
            case 4: return ledger.reopen(ledger.count(6) - 1);
            case 5: return ledger.state(1);
            default: return ledger.reverse(ledger.count(2) - 1, 5);
        }
    }
}
