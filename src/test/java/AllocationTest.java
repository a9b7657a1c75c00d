/** Promises 15 to 19: allocate, match, undo, owed, exact. */
public final class AllocationTest {
    /** Posts x on the first account, and y on the second one; the third one, plain, balances. */
    private static final String TEXT = "account a asset items;account b debt items foreign;account c income;account e equity;"
            + "post p{debit a x;debit b y;rest c;}";

    public static void main(String[] args) {
        allocate();
        allocateWrong();
        allocateLimit();
        match();
        matchLimit();
        undo();
        owed();
        exact();
        exactChoices();
        exactTen();
        Check.end("AllocationTest");
    }

    /** A ledger with these amounts on the first account, each the line 2 * n of an entry n. */
    private static SubLedger with(int... amounts) {
        SubLedger ledger = Check.taught(TEXT);
        for (int amount : amounts) {
            ledger.post(0, 0, amount, 0, 0);
        }
        return ledger;
    }

    private static void allocate() {
        SubLedger ledger = with(100, -70, -50);
        Check.due("debit to credit", 1, () -> ledger.allocate(0, 2, 30));
        Check.due("open of the debit", 70, () -> ledger.line(0, 4));
        Check.due("open of the credit", 40, () -> ledger.line(2, 4));
        Check.due("the same two once more, credit to debit", 2, () -> ledger.allocate(2, 0, 40));
        Check.due("open of the credit", 0, () -> ledger.line(2, 4));
        Check.badState("more than the debit has open", () -> ledger.allocate(0, 4, 31));
        Check.due("all that is open", 3, () -> ledger.allocate(0, 4, 30));
        Check.badState("nothing open", () -> ledger.allocate(0, 4, 1));
        Check.due("open of the other credit", 20, () -> ledger.line(4, 4));
        Check.due("amount behind allocations", 100, () -> ledger.line(0, 2));
        SubLedger reversed = with(100, -70);
        reversed.reverse(1, 3);
        reversed.reverse(0, 3);
        Check.due("a posting to a reversal", 1, () -> reversed.allocate(0, 6, 100));
        Check.due("two reversals", IllegalStateException.class, () -> reversed.allocate(4, 6, 1));
        Check.due("a reversal to a posting", 2, () -> reversed.allocate(4, 2, 70));
    }

    private static void allocateWrong() {
        SubLedger ledger = with(100, -70, 50, -60);
        ledger.post(0, 0, 0, 10, 0);
        ledger.post(0, 0, 0, -10, 0);
        Check.outOfBounds("line -1", () -> ledger.allocate(-1, 2, 1));
        Check.outOfBounds("line 12", () -> ledger.allocate(0, 12, 0));
        Check.outOfBounds("both", () -> ledger.allocate(12, -1, 1));
        Check.badArgument("amount 0", () -> ledger.allocate(0, 2, 0));
        Check.badArgument("amount -1", () -> ledger.allocate(0, 2, -1));
        Check.badArgument("amount 0 of two debits", () -> ledger.allocate(0, 4, 0));
        Check.badState("two debits", () -> ledger.allocate(0, 4, 1));
        Check.badState("two credits", () -> ledger.allocate(2, 6, 1));
        Check.badState("a line to itself", () -> ledger.allocate(0, 0, 1));
        Check.badState("without items", () -> ledger.allocate(1, 3, 1));
        Check.badState("of two accounts", () -> ledger.allocate(0, 10, 1));
        Check.badState("one without items", () -> ledger.allocate(0, 1, 1));
        Check.badState("more than the credit has open", () -> ledger.allocate(0, 2, 71));
        Check.badState("the most", () -> ledger.allocate(0, 2, Integer.MAX_VALUE));
        Check.due("allocations", 0, () -> ledger.count(5));
        Check.due("of the foreign one", 1, () -> ledger.allocate(8, 10, 10));
        closingsCannot();
    }

    private static void closingsCannot() {
        SubLedger ledger = Check.taught("account b debt items foreign;account i income items;account e equity items;"
                + "post p{debit b x;rest i;}");
        ledger.post(0, 0, 100, 0, 0);
        ledger.setRate(0, 50);
        ledger.close(0);
        Check.due("a revaluation's line", -50, () -> ledger.line(2, 2));
        Check.badState("a revaluation's line", () -> ledger.allocate(0, 2, 1));
        Check.badState("a revaluation's income", () -> ledger.allocate(1, 3, 1));
        Check.due("match with revaluations alone", 0, () -> ledger.match(0));
        Check.due("exact of a revaluation's line", -1, () -> ledger.exact(2));
        Check.due("exact with a revaluation's line alone", -1, () -> ledger.exact(0));
    }

    private static void allocateLimit() {
        SubLedger ledger = with(100, -100);
        for (int n = 1; n <= 60; n++) {
            int many = n;
            Check.due("allocation " + n, many, () -> ledger.allocate(0, 2, 1));
        }
        Check.badState("the 61st", () -> ledger.allocate(0, 2, 1));
        Check.due("match when there are 60", 0, () -> ledger.match(0));
        Check.due("undo of 60", 60, () -> ledger.undo(2));
        Check.due("allocations", 0, () -> ledger.count(5));
        Check.due("allocate again", 1, () -> ledger.allocate(0, 2, 100));
    }

    private static void match() {
        SubLedger ledger = with(100, 30, -70, 50, -60);
        Check.due("match", 130, () -> ledger.match(0));
        int[][] want = {{0, 0}, {2, 0}, {4, 0}, {6, 50}, {8, 0}};
        for (int[] one : want) {
            Check.due("open of line " + one[0], one[1], () -> ledger.line(one[0], 4));
        }
        Check.due("allocations", 3, () -> ledger.count(5));
        Check.due("match once more", 0, () -> ledger.match(0));
        Check.due("undo tells of which ones", 60, () -> ledger.undo(8));
        Check.due("30 of them from the first", 30, () -> ledger.line(0, 4));
        Check.due("30 of them from the second", 30, () -> ledger.line(2, 4));
        Check.due("match of another account", 0, () -> ledger.match(1));
        Check.due("match without items", 0, () -> ledger.match(2));
        Check.outOfBounds("match(-1)", () -> ledger.match(-1));
        Check.outOfBounds("match(4)", () -> ledger.match(4));
        SubLedger later = Check.taught(TEXT);
        later.post(0, 5, 10, 0, 0);
        later.post(0, 1, 10, 0, 0);
        later.post(0, 9, -15, 0, 0);
        later.allocate(2, 4, 2);
        Check.due("match by numbers, not by periods", 13, () -> later.match(0));
        Check.due("open of the earlier number", 0, () -> later.line(0, 4));
        Check.due("open of the later number", 5, () -> later.line(2, 4));
    }

    private static void matchLimit() {
        SubLedger ledger = with(100, -100, 7, -7);
        for (int n = 1; n <= 58; n++) {
            ledger.allocate(0, 2, 1);
        }
        Check.due("match with room for two", 49, () -> ledger.match(0));
        Check.due("allocations", 60, () -> ledger.count(5));
        SubLedger one = with(100, -100, 7, -7);
        for (int n = 1; n <= 59; n++) {
            one.allocate(0, 2, 1);
        }
        Check.due("match with room for one", 41, () -> one.match(0));
        Check.due("open behind it", 7, () -> one.line(4, 4));
    }

    private static void undo() {
        SubLedger ledger = with(100, 30, -70, -60);
        ledger.allocate(0, 4, 10);
        ledger.allocate(0, 6, 20);
        ledger.allocate(2, 4, 5);
        ledger.allocate(4, 0, 7);
        Check.due("undo of nothing", 0, () -> ledger.undo(1));
        Check.due("undo", 37, () -> ledger.undo(0));
        Check.due("open of it", 100, () -> ledger.line(0, 4));
        Check.due("open of the one", 65, () -> ledger.line(4, 4));
        Check.due("open of the other one", 60, () -> ledger.line(6, 4));
        Check.due("allocations", 1, () -> ledger.count(5));
        Check.due("undo of a credit", 5, () -> ledger.undo(4));
        Check.due("undo once more", 0, () -> ledger.undo(4));
        Check.outOfBounds("undo(-1)", () -> ledger.undo(-1));
        Check.outOfBounds("undo(8)", () -> ledger.undo(8));
    }

    private static void owed() {
        SubLedger ledger = Check.taught(TEXT);
        ledger.post(0, 1, 100, 5, 0);
        ledger.post(0, 4, -30, 0, 0);
        ledger.post(0, 4, 50, 0, 0);
        ledger.post(0, 9, -8, 0, 0);
        ledger.allocate(0, 3, 10);
        int[][] want = {{0, 11, 112}, {1, 1, 90}, {0, 0, 0}, {2, 4, 30}, {4, 4, 30}, {5, 11, -8}, {2, 3, 0}, {1, 4, 120},
            {4, 1, 0}, {11, 0, 0}, {9, 9, -8}, {10, 11, 0}};
        for (int[] one : want) {
            Check.due("owed(0, " + one[0] + ", " + one[1] + ")", one[2], () -> ledger.owed(0, one[0], one[1]));
        }
        Check.due("owed of another", 5, () -> ledger.owed(1, 0, 11));
        Check.due("owed without items", 0, () -> ledger.owed(2, 0, 11));
        Check.outOfBounds("account -1", () -> ledger.owed(-1, 0, 0));
        Check.outOfBounds("account 4", () -> ledger.owed(4, 0, 0));
        Check.outOfBounds("from -1", () -> ledger.owed(0, -1, 0));
        Check.outOfBounds("from 12", () -> ledger.owed(0, 12, 0));
        Check.outOfBounds("to -1", () -> ledger.owed(0, 0, -1));
        Check.outOfBounds("to 12", () -> ledger.owed(0, 0, 12));
    }

    private static void exact() {
        SubLedger ledger = with(10, 20, -30, 30, -15, 5);
        Check.due("one makes it up", 4, () -> ledger.exact(4));
        Check.due("none make it up", -1, () -> ledger.exact(0));
        Check.due("two make it up", 9, () -> ledger.exact(8));
        Check.due("of a debit, by credits", 1, () -> ledger.exact(6));
        Check.due("of another account", -1, () -> ledger.exact(1));
        ledger.allocate(2, 8, 3);
        Check.due("open amounts count", -1, () -> ledger.exact(8));
        ledger.allocate(6, 8, 12);
        Check.due("a line with nothing open", -1, () -> ledger.exact(8));
        Check.due("open amounts of the others count", -1, () -> ledger.exact(4));
        ledger.undo(8);
        ledger.allocate(0, 4, 10);
        Check.due("places behind one with nothing open", 1, () -> ledger.exact(4));
        Check.outOfBounds("exact(-1)", () -> ledger.exact(-1));
        Check.outOfBounds("exact(12)", () -> ledger.exact(12));
        SubLedger accounts = Check.taught(TEXT);
        accounts.post(0, 0, 10, 7, 0);
        accounts.post(0, 0, -7, -10, 0);
        Check.due("lines of the same account alone", -1, () -> accounts.exact(0));
    }

    private static void exactChoices() {
        SubLedger ledger = with(1, 2, 3, 4, 5, -6);
        // 6 = 1+5 (17) = 2+4 (10) = 1+2+3 (7): two are the fewest, and 10 the least of them.
        Check.due("the fewest, and of them the least", 10, () -> ledger.exact(10));
        SubLedger all = with(1, 2, 4, 8, 16, 32, 64, 128, 256, 512, -1023, -1000);
        Check.due("all ten", 1023, () -> all.exact(20));
        Check.due("1000", 1000, () -> all.exact(22));
        SubLedger same = with(5, 5, 5, -10);
        Check.due("the first two", 3, () -> same.exact(6));
    }

    private static void exactTen() {
        SubLedger ledger = with(1, 1, 1, 1, 1, 1, 1, 1, 1, 1, 40, -40, -11, -10);
        Check.due("the 11th is not looked at", -1, () -> ledger.exact(22));
        Check.due("11 of 10", -1, () -> ledger.exact(24));
        Check.due("10 of 10", 1023, () -> ledger.exact(26));
        ledger.allocate(0, 24, 1);
        Check.due("the 11th is the tenth that is open", 512, () -> ledger.exact(22));
    }
}
