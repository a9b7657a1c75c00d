/** Promises 26 to 29: state, byteAt, cleared, digest. */
public final class StatementsTest {
    private static final String TEXT = "account yen asset items foreign;account sales income items;account own equity;"
            + "account bare asset;post sell1234 {debit yen x;rest sales;}post q{debit bare x;credit bare y;rest sales;}";

    public static void main(String[] args) {
        state();
        byteAt();
        cleared();
        digestOfNew();
        digest();
        digestTellsAll();
        Check.end("StatementsTest");
    }

    private static SubLedger busy() {
        SubLedger ledger = Check.taught(TEXT);
        ledger.setRate(10, 50);
        ledger.post(0, 10, 9, 0, 0);
        ledger.post(1, 2, 7, 3, 0);
        ledger.post(0, 0, -100, 0, 0);
        ledger.reverse(0, 11);
        ledger.setRate(0, 150);
        for (int p = 0; p <= 3; p++) {
            ledger.close(p);
        }
        return ledger;
    }

    private static void statement(SubLedger ledger, int account, String want) {
        Check.due("state(" + account + ")", want.length(), () -> ledger.state(account));
        Check.due("paper of " + account, want, () -> Check.paper(ledger));
        Check.due("count(8)", want.length(), () -> ledger.count(8));
    }

    private static void state() {
        SubLedger ledger = busy();
        statement(ledger, 0, "10 sell1234 4 9\n0 sell1234 -100 -100\n11 reversal -4 -9\n0 revaluation -50 0\n1 revaluation 50 0\n");
        statement(ledger, 1, "10 sell1234 -4\n2 q -4\n0 sell1234 100\n11 reversal 4\n0 revaluation 50\n1 revaluation -50\n"
                + "3 result -96\n");
        statement(ledger, 2, "3 result 96\n");
        statement(ledger, 3, "2 q 7\n2 q -3\n");
        ledger.reopen(3);
        statement(ledger, 2, "");
        ledger.state(3);
        Check.outOfBounds("state(-1)", () -> ledger.state(-1));
        Check.outOfBounds("state(4)", () -> ledger.state(4));
        ledger.post(1, 5, 1, 1, 0);
        Check.due("paper stays as it was written", "2 q 7\n2 q -3\n", () -> Check.paper(ledger));
        SubLedger zero = Check.taught(TEXT);
        zero.setRate(0, 1);
        zero.post(0, 0, 50, 0, 0);
        statement(zero, 0, "0 sell1234 0 50\n");
    }

    private static void byteAt() {
        SubLedger ledger = busy();
        Check.outOfBounds("byteAt(0) of empty paper", () -> ledger.byteAt(0));
        ledger.state(3);
        Check.due("byteAt(0)", (int) '2', () -> ledger.byteAt(0));
        Check.due("byteAt(1)", (int) ' ', () -> ledger.byteAt(1));
        Check.due("byteAt(2)", (int) 'q', () -> ledger.byteAt(2));
        Check.due("byteAt(5)", 10, () -> ledger.byteAt(5));
        Check.due("byteAt(10)", (int) '-', () -> ledger.byteAt(10));
        Check.due("byteAt(12)", 10, () -> ledger.byteAt(12));
        Check.outOfBounds("byteAt(13)", () -> ledger.byteAt(13));
        Check.outOfBounds("byteAt(-1)", () -> ledger.byteAt(-1));
        Check.outOfBounds("byteAt of the most", () -> ledger.byteAt(Integer.MAX_VALUE));
    }

    private static void cleared() {
        Check.due("cleared of nothing", 0.0, () -> new SubLedger().cleared());
        SubLedger first = Check.taught(TEXT);
        first.post(0, 0, 10, 0, 0);
        first.post(0, 0, -30, 0, 0);
        first.allocate(0, 2, 5);
        Check.due("from the first line on", 10.0 / 80.0, first::cleared);
        SubLedger ledger = Check.taught(TEXT);
        ledger.post(1, 0, 10, 10, 0);
        Check.due("nothing that can be allocated", 0.0, ledger::cleared);
        ledger.post(0, 0, 100, 0, 0);
        ledger.post(0, 0, -60, 0, 0);
        Check.due("nothing allocated", 0.0, ledger::cleared);
        ledger.allocate(2, 4, 40);
        Check.due("both lines count", 80.0 / 320.0, ledger::cleared);
        ledger.match(1);
        Check.due("more accounts", 200.0 / 320.0, ledger::cleared);
        ledger.setRate(0, 50);
        ledger.close(0);
        Check.due("a revaluation does not count", 200.0 / 320.0, ledger::cleared);
        ledger.undo(2);
        Check.due("taken back", 120.0 / 320.0, ledger::cleared);
        ledger.reverse(0, 1);
        ledger.post(0, 1, 1, 0, 0);
        Check.due("not a finite number", 120.0 / 322.0, ledger::cleared);
    }

    private static void digestOfNew() {
        long d = 643;
        for (int what = 0; what <= 8; what++) {
            d = d * 31;
        }
        for (int p = 0; p < 12; p++) {
            d = (d * 31 + 100) * 31 * 31 * 31;
        }
        Check.due("digest of a new one", d, () -> new SubLedger().digest());
    }

    private static long next(long d, long x) {
        return d * 31 + x;
    }

    /** The checksum anew, by the answers of the calls that it is made of. */
    private static long sum(SubLedger ledger) {
        long d = 643;
        for (int what = 0; what <= 8; what++) {
            d = next(d, ledger.count(what));
        }
        for (int a = 0; a < ledger.count(0); a++) {
            for (int what = 0; what <= 5; what++) {
                d = next(d, ledger.account(a, what));
            }
            for (int p = 0; p < 12; p++) {
                d = next(next(d, ledger.balance(a, p, false)), ledger.balance(a, p, true));
                d = next(d, ledger.restated(a, p));
            }
        }
        for (int e = 0; e < ledger.count(2); e++) {
            for (int what = 0; what <= 6; what++) {
                d = next(d, ledger.entry(e, what));
            }
        }
        for (int l = 0; l < ledger.count(4); l++) {
            for (int what = 0; what <= 4; what++) {
                d = next(d, ledger.line(l, what));
            }
        }
        for (int p = 0; p < 12; p++) {
            for (int what = 0; what <= 3; what++) {
                d = next(d, ledger.period(p, what));
            }
        }
        for (int i = 0; i < ledger.count(8); i++) {
            d = next(d, ledger.byteAt(i));
        }
        return d;
    }

    private static void digest() {
        SubLedger ledger = busy();
        ledger.state(0);
        ledger.match(0);
        Check.due("digest", sum(ledger), ledger::digest);
        Check.due("digest once more", sum(ledger), ledger::digest);
        ledger.reopen(3);
        ledger.reopen(2);
        ledger.post(0, 2, 5, 0, 0);
        Check.due("digest with void entries", sum(ledger), ledger::digest);
        ledger.close(2);
        ledger.feed(1, 2, 3, 4, 5);
        Check.due("digest of more", sum(ledger), ledger::digest);
    }

    private static void digestTellsAll() {
        SubLedger one = busy();
        SubLedger other = busy();
        Check.due("two of the same", one.digest(), other::digest);
        other.state(2);
        long withPaper = other.digest();
        Check.due("the paper counts", true, () -> one.digest() != withPaper);
        one.state(2);
        one.allocate(0, 5, 4);
        Check.due("allocations count", true, () -> one.digest() != withPaper);
        one.undo(0);
        Check.due("but not for long", withPaper, one::digest);
    }
}
