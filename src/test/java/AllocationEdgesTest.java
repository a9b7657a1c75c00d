/** The boundary cases that "3. Allocation" and promises 15 to 19 name, one sentence after the other. */
public final class AllocationEdgesTest {
    /** Posts x on the first account, y on the second one and z on the third one; the plain income balances. */
    private static final String TEXT = "account a asset items;account b debt items foreign;account plain asset;account i income;"
            + "post p{debit a x;debit b y;debit plain z;rest i;}post q{debit a x;debit a -x;}";
    private static final int MIN = Integer.MIN_VALUE;
    private static final int MAX = Integer.MAX_VALUE;

    public static void main(String[] args) {
        amountsOfOne();
        openAmounts();
        linesWithoutAmount();
        whatCanBeAllocated();
        sixtyAllocations();
        sixtyByMatch();
        matchInOrder();
        matchAnywhere();
        undoneAll();
        reversalOfAllocated();
        owedPeriods();
        exactOfOne();
        exactTen();
        exactFewest();
        exactAnywhere();
        linesOfReversals();
        numbersTold();
        Check.end("AllocationEdgesTest");
    }

    /** A ledger with these amounts on the first account, each the line 2 * n of an entry n. */
    private static SubLedger with(int... amounts) {
        SubLedger ledger = Check.taught(TEXT);
        for (int amount : amounts) {
            ledger.post(0, 0, amount, 0, 0);
        }
        return ledger;
    }

    /** "if amount is less than 1", and lines with amounts of 1. */
    private static void amountsOfOne() {
        SubLedger ledger = with(1, -1, 1, -1);
        for (int wrong : new int[] {0, -1, MIN}) {
            Check.badArgument("amount " + wrong, () -> ledger.allocate(0, 2, wrong));
        }
        Check.badState("amount 2 of 1", () -> ledger.allocate(0, 2, 2));
        Check.badState("two debits of 1", () -> ledger.allocate(0, 4, 1));
        Check.badState("two credits of 1", () -> ledger.allocate(2, 6, 1));
        Check.due("amount 1 of 1", 1, () -> ledger.allocate(2, 0, 1));
        Check.due("nothing open any more", 0, () -> ledger.line(0, 4));
        Check.badState("amount 1 of nothing", () -> ledger.allocate(0, 6, 1));
        Check.due("exact of 1", 1, () -> ledger.exact(4));
        Check.due("match of 1", 1, () -> ledger.match(0));
        Check.due("all is cleared", 1.0, ledger::cleared);
        Check.due("debits", 0, () -> ledger.account(0, 4));
        Check.due("credits", 0, () -> ledger.account(0, 5));
    }

    /** "amount is more than one of their open amounts". */
    private static void openAmounts() {
        SubLedger ledger = with(1000, -600);
        ledger.post(0, 11, -1000, 0, 0);
        Check.badState("601 of 600", () -> ledger.allocate(0, 2, 601));
        Check.badState("601 of 600, the other way", () -> ledger.allocate(2, 0, 601));
        Check.badState("the most", () -> ledger.allocate(0, 2, MAX));
        Check.due("600 of 600", 1, () -> ledger.allocate(0, 2, 600));
        Check.badState("401 of 400", () -> ledger.allocate(0, 4, 401));
        Check.badState("401 of 400, the other way", () -> ledger.allocate(4, 0, 401));
        Check.due("400 of 400", 2, () -> ledger.allocate(4, 0, 400));
        Check.due("what stays open", 600, () -> ledger.line(4, 4));
        Check.badState("1 of 0", () -> ledger.allocate(4, 0, 1));
        SubLedger big = Check.taught("account a asset items;account i income;post p{debit a x*10;rest i;}");
        big.post(0, 0, 100000, 0, 0);
        big.post(0, 0, -100000, 0, 0);
        Check.badState("1000001", () -> big.allocate(0, 2, 1000001));
        Check.due("1000000", 1, () -> big.allocate(0, 2, 1000000));
    }

    /** A line with the amount 0, which its foreign amount keeps, is no debit and no credit. */
    private static void linesWithoutAmount() {
        SubLedger ledger = Check.taught(TEXT);
        ledger.setRate(0, 1);
        ledger.post(0, 0, 0, 99, 0);
        ledger.post(0, 0, 0, -99, 0);
        ledger.post(0, 0, 0, 100, 0);
        ledger.post(0, 0, 0, -100, 0);
        Check.due("line 0", 0, () -> ledger.line(0, 2));
        Check.due("open of it", 0, () -> ledger.line(0, 4));
        Check.badState("two without amounts", () -> ledger.allocate(0, 1, 1));
        Check.badState("one without an amount, to a debit", () -> ledger.allocate(0, 2, 1));
        Check.badState("one without an amount, to a credit", () -> ledger.allocate(4, 1, 1));
        Check.due("exact of it", -1, () -> ledger.exact(0));
        Check.due("exact passes them by", 1, () -> ledger.exact(2));
        Check.due("owed", 0, () -> ledger.owed(1, 0, 11));
        Check.due("match passes them by", 1, () -> ledger.match(1));
        Check.due("one allocation", 1, () -> ledger.count(5));
        Check.due("undo of it", 0, () -> ledger.undo(0));
        Check.due("all is cleared", 1.0, ledger::cleared);
        Check.due("and it can be reversed", 4, () -> ledger.reverse(0, 0));
    }

    /** "if its account has items, its entry was posted or is a reversal, and is not void". */
    private static void whatCanBeAllocated() {
        SubLedger ledger = Check.taught("account a asset items foreign;account i income items;account e equity items;"
                + "post p{debit a x;rest i;}");
        ledger.post(0, 3, 100, 0, 0);
        ledger.post(0, 3, 10, 0, 0);
        ledger.reverse(1, 3);
        for (int p = 0; p < 4; p++) {
            ledger.setRate(p, 50);
            ledger.close(p);
        }
        // Line 6 and 7 are the revaluation's, 8 and 9 the result's.
        int[] opens = {100, 100, 10, 10, 10, 10, 0, 0, 0, 0};
        for (int l = 0; l < 10; l++) {
            int line = l;
            Check.due("open of " + l, opens[l], () -> ledger.line(line, 4));
            Check.due("exact of " + l, l == 2 || l == 3 ? 1 : l == 4 || l == 5 ? 2 : -1, () -> ledger.exact(line));
            if (l >= 6) {
                for (int other = 0; other < 10; other++) {
                    int to = other;
                    Check.badState("line " + l + " to " + other, () -> ledger.allocate(line, to, 1));
                    Check.badState("line " + other + " to " + l, () -> ledger.allocate(to, line, 1));
                }
            }
        }
        Check.due("open debits", 110, () -> ledger.account(0, 4));
        Check.due("open credits", 10, () -> ledger.account(0, 5));
        Check.due("owed", 100, () -> ledger.owed(0, 3, 3));
        Check.due("in a closed period too", 1, () -> ledger.allocate(2, 4, 10));
        Check.due("what is cleared", 20.0 / 240.0, ledger::cleared);
        ledger.reopen(3);
        for (int l = 6; l < 10; l++) {
            int line = l;
            Check.due("open of a void one", 0, () -> ledger.line(line, 4));
            Check.badState("a void one", () -> ledger.allocate(line, 0, 1));
            Check.due("undo of a void one", 0, () -> ledger.undo(line));
        }
        SubLedger plain = Check.taught(TEXT);
        plain.post(0, 0, 5, 5, 5);
        plain.post(0, 0, -5, -5, -5);
        Check.badState("without items", () -> plain.allocate(2, 6, 1));
        Check.badState("of two accounts", () -> plain.allocate(0, 5, 1));
        Check.due("match without items", 0, () -> plain.match(2));
        Check.due("exact without items", -1, () -> plain.exact(2));
        Check.due("with items", 1, () -> plain.allocate(1, 5, 5));
    }

    /** "There are at most 60 at a time." */
    private static void sixtyAllocations() {
        SubLedger ledger = with(100, -50, -50);
        for (int n = 1; n <= 30; n++) {
            ledger.allocate(0, 2, 1);
            ledger.allocate(4, 0, 1);
        }
        Check.due("60", 60, () -> ledger.count(5));
        Check.badState("the 61st", () -> ledger.allocate(0, 2, 1));
        Check.badArgument("the 61st of 0", () -> ledger.allocate(0, 2, 0));
        Check.outOfBounds("the 61st of no line", () -> ledger.allocate(0, 6, 1));
        Check.due("match of 60", 0, () -> ledger.match(0));
        Check.due("undo of 30", 30, () -> ledger.undo(2));
        Check.due("30", 30, () -> ledger.count(5));
        Check.due("the 31st", 31, () -> ledger.allocate(0, 2, 1));
        Check.due("open", 100 - 31, () -> ledger.line(0, 4));
        Check.due("undo of all", 31, () -> ledger.undo(0));
        Check.due("none", 0, () -> ledger.count(5));
        Check.due("open of all", 100, () -> ledger.line(0, 4));
    }

    /** "and there are fewer than 60 allocations". */
    private static void sixtyByMatch() {
        for (int ahead = 56; ahead <= 60; ahead++) {
            SubLedger ledger = with(100, -100, 7, -7, 8, -8, 9);
            for (int n = 0; n < ahead; n++) {
                ledger.allocate(0, 2, 1);
            }
            int first = 100 - ahead;
            int[] want = {first + 7 + 8, first + 7 + 8, first + 7, first, 0};
            int room = 60 - ahead;
            Check.due("match with room for " + room, want[ahead - 56], () -> ledger.match(0));
            Check.due("allocations", Math.min(60, ahead + 3), () -> ledger.count(5));
            Check.due("open of the last debit", 9, () -> ledger.line(12, 4));
            Check.due("match once more", 0, () -> ledger.match(0));
        }
        SubLedger many = Check.taught(TEXT);
        for (int n = 0; n < 59; n++) {
            many.post(1, 0, 1, 0, 0);
        }
        many.post(0, 0, 5, 0, 0);
        Check.due("59 of 59", 59, () -> many.match(0));
        Check.due("59", 59, () -> many.count(5));
    }

    /** "the first one of each, by the numbers of lines, with as much as both have open". */
    private static void matchInOrder() {
        SubLedger ledger = with(-5, 3, -4, 10, -2, 1);
        Check.due("match", 11, () -> ledger.match(0));
        int[] opens = {0, 0, 0, 2, 0, 1};
        for (int n = 0; n < 6; n++) {
            int line = 2 * n;
            Check.due("open of " + n, opens[n], () -> ledger.line(line, 4));
        }
        // 3 and 2 of the 5, 4, and 2 by the third one.
        Check.due("allocations", 4, () -> ledger.count(5));
        Check.due("undo of the first credit", 5, () -> ledger.undo(0));
        Check.due("the debits that it had", 3, () -> ledger.line(2, 4));
        Check.due("the debits that it had", 4, () -> ledger.line(6, 4));
        SubLedger debits = with(3, 4);
        Check.due("no credit", 0, () -> debits.match(0));
        SubLedger credits = with(-3, -4);
        Check.due("no debit", 0, () -> credits.match(0));
        Check.due("no lines", 0, () -> with().match(0));
    }

    /** Lines of any period, open or closed, and of one entry, in either order; equal amounts are not looked for. */
    private static void matchAnywhere() {
        SubLedger ledger = Check.taught(TEXT);
        ledger.post(0, 5, 10, 0, 0);
        ledger.post(0, 9, -3, 0, 0);
        ledger.post(0, 0, -10, 0, 0);
        ledger.post(1, 1, 4, 0, 0);
        ledger.post(1, 2, -6, 0, 0);
        ledger.close(0);
        ledger.close(1);
        // Line 0 has 10, 2 has -3, 4 has -10, 6 and 7 have 4 and -4, 8 and 9 have -6 and 6.
        Check.due("match", 20, () -> ledger.match(0));
        int[] lines = {0, 2, 4, 6, 7, 8, 9};
        int[] opens = {0, 0, 0, 0, 0, 3, 0};
        for (int n = 0; n < lines.length; n++) {
            int line = lines[n];
            Check.due("open of " + line, opens[n], () -> ledger.line(line, 4));
        }
        // 10 by 3 and 7, 4 by 3 and 1, 6 by 3 and 3.
        Check.due("allocations", 6, () -> ledger.count(5));
        Check.due("undo of the second credit", 10, () -> ledger.undo(4));
        Check.due("of the first debit", 7, () -> ledger.line(0, 4));
        Check.due("of the second debit", 3, () -> ledger.line(6, 4));
        SubLedger reversed = with(10, 10, -10);
        reversed.reverse(0, 4);
        Check.due("a reversed one, and a reversal", 20, () -> reversed.match(0));
        Check.due("nothing stays open", 0, () -> reversed.owed(0, 0, 11));
        Check.due("the reversal took the second one", 0, () -> reversed.line(6, 4));
    }

    /** "Takes all allocations of a line back", of the one that is told first and of the other one. */
    private static void undoneAll() {
        SubLedger ledger = with(10, -10, -10, 10);
        ledger.allocate(0, 2, 3);
        ledger.allocate(4, 0, 4);
        ledger.allocate(6, 2, 5);
        ledger.allocate(0, 2, 2);
        Check.due("all of the first one", 9, () -> ledger.undo(0));
        Check.due("one stays", 1, () -> ledger.count(5));
        int[] opens = {10, 5, 10, 5};
        for (int n = 0; n < 4; n++) {
            int line = 2 * n;
            Check.due("open of " + n, opens[n], () -> ledger.line(line, 4));
        }
        Check.due("nothing of it", 0, () -> ledger.undo(0));
        Check.due("nothing of one without items", 0, () -> ledger.undo(1));
        Check.due("the other one", 5, () -> ledger.undo(2));
        Check.due("none stays", 0, () -> ledger.count(5));
    }

    /** "An entry of which a line is allocated cannot be reversed", whichever line of it. */
    private static void reversalOfAllocated() {
        SubLedger ledger = Check.taught(TEXT + "post r{debit plain x;credit plain x;debit a x;credit a x;}");
        ledger.post(2, 0, 8, 0, 0);
        ledger.post(2, 0, 8, 0, 0);
        ledger.allocate(2, 7, 1);
        Check.badState("its third line", () -> ledger.reverse(0, 0));
        Check.badState("its fourth line", () -> ledger.reverse(1, 0));
        ledger.undo(7);
        ledger.allocate(2, 3, 8);
        Check.badState("both of its lines", () -> ledger.reverse(0, 0));
        Check.due("the other entry", 2, () -> ledger.reverse(1, 0));
        ledger.undo(3);
        ledger.allocate(2, 10, 8);
        Check.badState("one that a reversal has", () -> ledger.reverse(0, 0));
        ledger.undo(10);
        Check.due("undone", 3, () -> ledger.reverse(0, 0));
    }

    /** "of the periods from the one to the other one", "0 if from is greater than to". */
    private static void owedPeriods() {
        SubLedger ledger = Check.taught(TEXT);
        for (int p = 0; p < 12; p++) {
            ledger.post(0, p, 1 << p, 0, 0);
        }
        for (int from = 0; from < 12; from++) {
            for (int to = 0; to < 12; to++) {
                int want = from > to ? 0 : (2 << to) - (1 << from);
                int first = from;
                int last = to;
                Check.due("owed(0, " + from + ", " + to + ")", want, () -> ledger.owed(0, first, last));
            }
        }
        ledger.post(0, 0, -3, 0, 0);
        ledger.allocate(0, 24, 1);
        Check.due("debits less credits", -2, () -> ledger.owed(0, 0, 0));
        Check.due("allocated ones", 2, () -> ledger.line(24, 4));
    }

    /** "or the line has nothing open", "-1 if there are none". */
    private static void exactOfOne() {
        SubLedger ledger = with(5, -5, 5, -4);
        Check.due("one of one", 1, () -> ledger.exact(0));
        Check.due("the first of two", 1, () -> ledger.exact(2));
        Check.due("less than any", -1, () -> ledger.exact(6));
        ledger.allocate(0, 2, 5);
        Check.due("nothing open", -1, () -> ledger.exact(0));
        Check.due("nothing open of the credit", -1, () -> ledger.exact(2));
        Check.due("none that makes it up", -1, () -> ledger.exact(4));
        ledger.allocate(4, 6, 1);
        Check.due("4 by what is open of 4", -1, () -> ledger.exact(4));
        ledger.undo(2);
        Check.due("4 by 5 and 3", -1, () -> ledger.exact(4));
        ledger.allocate(0, 2, 1);
        Check.due("4 by what is open of 5", 1, () -> ledger.exact(4));
        Check.due("no lines of the other side", -1, () -> with(5, 5).exact(0));
        Check.due("nothing of the income", -1, () -> ledger.exact(1));
    }

    /** "of the first 10 such lines, by their numbers": those with nothing open are none of them. */
    private static void exactTen() {
        for (int before = 0; before <= 12; before++) {
            int[] amounts = new int[before + 3];
            for (int i = 0; i < before; i++) {
                amounts[i] = 1000;
            }
            amounts[before] = 7;
            amounts[before + 1] = 7;
            amounts[before + 2] = -7;
            SubLedger ledger = with(amounts);
            int line = 2 * (before + 2);
            Check.due("7 behind " + before, before < 10 ? 1 << before : -1, () -> ledger.exact(line));
            if (before > 0) {
                ledger.post(0, 0, -1000, 0, 0);
                ledger.allocate(0, line + 2, 1000);
                Check.due("7 behind " + before + ", one not open", before < 11 ? 1 << before - 1 : -1, () -> ledger.exact(line));
            }
        }
        SubLedger ten = with(1, 1, 1, 1, 1, 1, 1, 1, 1, 1, 1, -10, -11, -9);
        Check.due("all ten", 1023, () -> ten.exact(22));
        Check.due("eleven", -1, () -> ten.exact(24));
        Check.due("nine", 511, () -> ten.exact(26));
    }

    /** "the fewest", "of several with as few the least sum". */
    private static void exactFewest() {
        SubLedger ledger = with(1, 2, 3, 4, 10, 6, 7, 8, 9, 5, -10, -19, -18, -55, -56, -1);
        Check.due("10 alone", 16, () -> ledger.exact(20));
        Check.due("19 = 10 + 9", 16 + 256, () -> ledger.exact(22));
        Check.due("18 = 10 + 8", 16 + 128, () -> ledger.exact(24));
        Check.due("55 = all", 1023, () -> ledger.exact(26));
        Check.due("56", -1, () -> ledger.exact(28));
        Check.due("1", 1, () -> ledger.exact(30));
        SubLedger same = with(4, 3, 1, 2, 5, -5, -6);
        Check.due("5 alone, not 4 + 1", 16, () -> same.exact(10));
        // 4 + 2 (9), 1 + 5 (20).
        Check.due("6: the least of two", 9, () -> same.exact(12));
        SubLedger debit = with(-4, -3, -1, -2, -5, 5, 6);
        Check.due("5 by credits", 16, () -> debit.exact(10));
        Check.due("6 by credits", 9, () -> debit.exact(12));
    }

    /** Open lines of any entry, also of the same one, ahead of it and behind it, of closed periods, and of reversals. */
    private static void exactAnywhere() {
        SubLedger ledger = Check.taught(TEXT);
        ledger.post(1, 5, 4, 0, 0);
        Check.due("of the same entry", 1, () -> ledger.exact(0));
        Check.due("of the same entry, the other way", 1, () -> ledger.exact(1));
        ledger.post(0, 0, -9, 0, 0);
        ledger.post(0, 11, 9, 0, 0);
        ledger.post(0, 1, 13, 0, 0);
        ledger.close(0);
        Check.due("9 by an earlier one, of a closed period", 2, () -> ledger.exact(4));
        Check.due("9 by a later one", 2, () -> ledger.exact(2));
        Check.due("13 by both", 3, () -> ledger.exact(6));
        ledger.reverse(2, 3);
        Check.due("9 of one that is reversed, by the least of two", 2, () -> ledger.exact(4));
        ledger.allocate(2, 6, 9);
        Check.due("9 by its reversal", 2, () -> ledger.exact(4));
        Check.due("the reversal's 9", 2, () -> ledger.exact(8));
        Check.due("4 is still the first one", 1, () -> ledger.exact(6));
        SubLedger most = Check.taught(TEXT + "post r{debit a x*10;rest i;}");
        most.post(2, 0, 100000, 0, 0);
        most.post(2, 0, -100000, 0, 0);
        Check.due("1000000 by a credit", 1, () -> most.exact(0));
        Check.due("1000000 by a debit", 1, () -> most.exact(2));
        Check.due("1000000 are allocated", 1000000, () -> most.match(0));
        SubLedger greater = with(50, 3, 60, 4, -7);
        Check.due("greater ones have their places, too", 2 + 8, () -> greater.exact(8));
    }

    /** A reversal's lines, and those of the one that it reverses, are lines of the account as any others. */
    private static void linesOfReversals() {
        SubLedger ledger = with(5, -3);
        ledger.reverse(0, 6);
        Check.due("lines", 3, () -> ledger.account(0, 3));
        Check.due("lines of the income", 3, () -> ledger.account(3, 3));
        Check.due("open debits", 5, () -> ledger.account(0, 4));
        Check.due("open credits", 8, () -> ledger.account(0, 5));
        Check.due("owed of what is reversed", 2, () -> ledger.owed(0, 0, 0));
        Check.due("owed of the reversal", -5, () -> ledger.owed(0, 6, 6));
        Check.due("the reversed one to its reversal", 1, () -> ledger.allocate(0, 4, 5));
        Check.due("cleared", 10.0 / 13.0, ledger::cleared);
    }

    /** "if there is no such line", "if there is no such account", "from or to is not 0 to 11". */
    private static void numbersTold() {
        SubLedger ledger = with(5, -5);
        for (int wrong : new int[] {-1, 4, MIN, MAX}) {
            Check.outOfBounds("line a " + wrong, () -> ledger.allocate(wrong, 2, 1));
            Check.outOfBounds("line b " + wrong, () -> ledger.allocate(0, wrong, 1));
            Check.outOfBounds("undo " + wrong, () -> ledger.undo(wrong));
            Check.outOfBounds("exact " + wrong, () -> ledger.exact(wrong));
            Check.outOfBounds("match " + wrong, () -> ledger.match(wrong));
            Check.outOfBounds("owed of " + wrong, () -> ledger.owed(wrong, 0, 11));
        }
        for (int wrong : new int[] {-1, 12, MIN, MAX}) {
            Check.outOfBounds("owed from " + wrong, () -> ledger.owed(0, wrong, 11));
            Check.outOfBounds("owed to " + wrong, () -> ledger.owed(0, 0, wrong));
        }
        Check.outOfBounds("owed from 12 to -1", () -> ledger.owed(0, 12, -1));
        Check.due("the last line", 0, () -> ledger.undo(3));
        Check.due("the last account", 0, () -> ledger.match(3));
        SubLedger none = new SubLedger();
        Check.outOfBounds("allocate of none", () -> none.allocate(0, 0, 1));
        Check.outOfBounds("undo of none", () -> none.undo(0));
        Check.outOfBounds("exact of none", () -> none.exact(0));
        Check.outOfBounds("match of none", () -> none.match(0));
        Check.outOfBounds("owed of none", () -> none.owed(0, 0, 11));
    }
}
