/** Promises 24 and 25: would, solve. */
public final class WouldBeTest {
    private static final String TEXT = "account cash asset;account yen asset items foreign;account own equity;account in income;"
            + "post p{debit cash x;debit yen y;credit cash z;rest in;}post q{debit cash x;credit own x*2;credit in y-x;}"
            + "post r{debit cash (x-100)*(x-100) when x>20;rest own;}post s{debit cash 7 when x>=150;rest in;}"
            + "post t{debit cash of cash+x;rest in;}post u{debit cash x*10+y;rest in;}post v{debit cash x+y+z;rest in;}"
            + "post w{debit cash x;credit own x*2;}";

    public static void main(String[] args) {
        would();
        wouldWrong();
        wouldWhenFull();
        solve();
        solveNone();
        solveWrong();
        Check.end("WouldBeTest");
    }

    private static void would() {
        SubLedger ledger = Check.taught(TEXT);
        ledger.setRate(2, 50);
        ledger.post(0, 1, 100, 0, 0);
        ledger.post(0, 5, 1000, 0, 0);
        ledger.state(0);
        long before = ledger.digest();
        Check.due("all lines of the account", 103, () -> ledger.would(0, 2, 8, 20, 5, 0));
        Check.due("the amount of a foreign one", 10, () -> ledger.would(0, 2, 8, 20, 5, 1));
        Check.due("the rest", -113, () -> ledger.would(0, 2, 8, 20, 5, 3));
        Check.due("an account that it leaves alone", 0, () -> ledger.would(0, 2, 8, 20, 5, 2));
        Check.due("up to the period", 8, () -> ledger.would(0, 0, 8, 0, 0, 0));
        Check.due("up to a later period", 1108, () -> ledger.would(0, 11, 8, 0, 0, 0));
        Check.due("of the balance up to the period", 206, () -> ledger.would(4, 1, 6, 0, 0, 0));
        Check.due("it does not balance", 100, () -> ledger.would(1, 2, 8, 1, 0, 0));
        Check.due("it balances", 108, () -> ledger.would(1, 2, 8, 0, 0, 0));
        Check.due("no lines", 100, () -> ledger.would(0, 2, 0, 0, 0, 0));
        Check.due("too large", 100, () -> ledger.would(5, 2, 100000, 1, 0, 0));
        Check.due("as large as it may be", 1000100, () -> ledger.would(5, 2, 100000, 0, 0, 0));
        Check.due("nothing is changed", before, ledger::digest);
        ledger.close(0);
        Check.due("closed", 0, () -> ledger.would(0, 0, 8, 0, 0, 0));
    }

    private static void wouldWrong() {
        SubLedger ledger = Check.taught(TEXT);
        Check.outOfBounds("template -1", () -> ledger.would(-1, 0, 0, 0, 0, 0));
        Check.outOfBounds("template 8", () -> ledger.would(8, 0, 0, 0, 0, 0));
        Check.outOfBounds("account -1", () -> ledger.would(0, 0, 0, 0, 0, -1));
        Check.outOfBounds("account 4, and no x", () -> ledger.would(0, 0, 100001, 0, 0, 4));
        Check.outOfBounds("period -1", () -> ledger.would(0, -1, 0, 0, 0, 0));
        Check.outOfBounds("period 12, and no x", () -> ledger.would(0, 12, 100001, 0, 0, 0));
        Check.badArgument("x 100001", () -> ledger.would(0, 0, 100001, 0, 0, 0));
        Check.badArgument("y -100001", () -> ledger.would(0, 0, 0, -100001, 0, 0));
        Check.badArgument("z 100001", () -> ledger.would(0, 0, 0, 0, 100001, 0));
        Check.due("the most", 300000, () -> ledger.would(6, 0, 100000, 100000, 100000, 0));
        Check.due("the least", -300000, () -> ledger.would(6, 0, -100000, -100000, -100000, 0));
        ledger.close(0);
        Check.badArgument("closed, and no x", () -> ledger.would(0, 0, 100001, 0, 0, 0));
    }

    private static void wouldWhenFull() {
        SubLedger ledger = Check.taught(TEXT);
        for (int n = 0; n < 60; n++) {
            Check.due("would with " + n + " entries", n + 5, () -> ledger.would(0, 0, 5, 0, 0, 0));
            ledger.post(0, 0, 1, 0, 0);
        }
        Check.due("would with 60 entries", 60, () -> ledger.would(0, 0, 5, 0, 0, 0));
        Check.due("solve with 60 entries", -1, () -> ledger.solve(0, 0, 0, 70));
    }

    private static void solve() {
        SubLedger ledger = Check.taught(TEXT);
        ledger.post(0, 3, 50, 0, 0);
        long before = ledger.digest();
        Check.due("just so", 20, () -> ledger.solve(0, 3, 0, 70));
        Check.due("in an earlier period", 70, () -> ledger.solve(0, 2, 0, 70));
        Check.due("the greatest", 200, () -> ledger.solve(0, 3, 0, 1000000));
        Check.due("the least with which it can be posted", 1, () -> ledger.solve(0, 3, 0, -1000000));
        Check.due("of the rest", 33, () -> ledger.solve(0, 3, 3, -83));
        // 100 - 60 and 100 + 60 bring the same.
        Check.due("of several the least", 40, () -> ledger.solve(2, 0, 0, 3600));
        Check.due("nearest from below", 40, () -> ledger.solve(2, 0, 0, 3541));
        Check.due("the next one is nearer", 41, () -> ledger.solve(2, 0, 0, 3540));
        Check.due("nearest from above", 40, () -> ledger.solve(2, 0, 0, 3660));
        Check.due("an account that it leaves alone", 21, () -> ledger.solve(2, 0, 1, 0));
        Check.due("not with less than 150", 150, () -> ledger.solve(3, 0, 0, 0));
        Check.due("between two: the least", 2, () -> ledger.solve(5, 0, 0, 25));
        Check.due("y and z are 0", 9, () -> ledger.solve(6, 0, 0, 9));
        Check.due("x can be 0", 0, () -> ledger.solve(4, 3, 0, 0));
        Check.due("nothing is changed", before, ledger::digest);
        SubLedger zero = Check.taught(TEXT);
        Check.due("x of 0 makes no line", 1, () -> zero.solve(0, 0, 0, 0));
    }

    private static void solveNone() {
        SubLedger ledger = Check.taught(TEXT);
        Check.due("never balances but with 0", -1, () -> ledger.solve(7, 0, 0, 5));
        ledger.close(0);
        Check.due("closed", -1, () -> ledger.solve(0, 0, 0, 5));
        Check.due("open", 5, () -> ledger.solve(0, 1, 0, 5));
    }

    private static void solveWrong() {
        SubLedger ledger = Check.taught(TEXT);
        Check.outOfBounds("template -1", () -> ledger.solve(-1, 0, 0, 0));
        Check.outOfBounds("template 8", () -> ledger.solve(8, 0, 0, 0));
        Check.outOfBounds("period -1", () -> ledger.solve(0, -1, 0, 0));
        Check.outOfBounds("period 12", () -> ledger.solve(0, 12, 0, 0));
        Check.outOfBounds("account -1", () -> ledger.solve(0, 0, -1, 0));
        Check.outOfBounds("account 4, and no goal", () -> ledger.solve(0, 0, 4, 1000001));
        Check.badArgument("goal 1000001", () -> ledger.solve(0, 0, 0, 1000001));
        Check.badArgument("goal -1000001", () -> ledger.solve(0, 0, 0, -1000001));
        ledger.close(0);
        Check.badArgument("closed, and no goal", () -> ledger.solve(0, 0, 0, Integer.MIN_VALUE));
    }
}
