/** Promises 8 to 14: setRate, post, reverse, entry, line, balance, trial. */
public final class EntriesTest {
    private static final String ACCOUNTS = "account cash asset;account euro asset items foreign;account loan debt items foreign;"
            + "account own equity;account gain income;account cost0 cost;";
    private static final int CASH = 0;
    private static final int EURO = 1;
    private static final int LOAN = 2;
    private static final int GAIN = 4;

    public static void main(String[] args) {
        setRate();
        postPlain();
        postForeign();
        postRest();
        postLeftOut();
        postLimits();
        postWrong();
        postBalances();
        fullOfEntries();
        fullOfLines();
        reverse();
        reverseWrong();
        reverseWhenFull();
        entry();
        line();
        balance();
        trial();
        Check.end("EntriesTest");
    }

    private static SubLedger with(String... templates) {
        return Check.taught(ACCOUNTS + String.join("\n", templates));
    }

    private static void setRate() {
        SubLedger ledger = new SubLedger();
        Check.due("setRate(0, 1)", 100, () -> ledger.setRate(0, 1));
        Check.due("setRate(0, 200)", 1, () -> ledger.setRate(0, 200));
        Check.due("setRate(11, 7)", 100, () -> ledger.setRate(11, 7));
        Check.due("rate behind it", 200, () -> ledger.period(0, 0));
        Check.outOfBounds("setRate(-1, 0)", () -> ledger.setRate(-1, 0));
        Check.outOfBounds("setRate(12, 5)", () -> ledger.setRate(12, 5));
        Check.badArgument("setRate(0, 0)", () -> ledger.setRate(0, 0));
        Check.badArgument("setRate(0, 201)", () -> ledger.setRate(0, 201));
        Check.badArgument("setRate(0, -5)", () -> ledger.setRate(0, -5));
        ledger.close(0);
        Check.badState("setRate of a closed period", () -> ledger.setRate(0, 5));
        Check.badArgument("setRate of a closed period, and no rate", () -> ledger.setRate(0, 0));
        Check.due("rate behind wrong calls", 200, () -> ledger.period(0, 0));
        Check.due("setRate of an open one", 100, () -> ledger.setRate(1, 5));
    }

    /** Account, amount and foreign amount of each line of an entry. */
    private static void lines(SubLedger ledger, int entry, int... want) {
        Check.due("lines of entry " + entry, want.length / 3, () -> ledger.entry(entry, 4));
        for (int i = 0; i < want.length; i++) {
            int line = ledger.entry(entry, 3) + i / 3;
            int what = i % 3 + 1;
            Check.due("entry " + entry + ", line " + i / 3 + ", " + what, want[i], () -> ledger.line(line, what));
        }
    }

    private static void postPlain() {
        SubLedger ledger = with("post p{credit own x*2;debit cash x;debit cost0 x when y>0;debit cash x when y<=0;}");
        Check.due("first post", 0, () -> ledger.post(0, 3, 5, 1, 0));
        Check.due("second post", 1, () -> ledger.post(0, 2, -7, 0, 0));
        lines(ledger, 0, 3, -10, 0, CASH, 5, 0, 5, 5, 0);
        lines(ledger, 1, 3, 14, 0, CASH, -7, 0, CASH, -7, 0);
    }

    private static void postForeign() {
        SubLedger ledger = with("post p{debit euro x;credit loan y;rest gain;}");
        ledger.setRate(4, 55);
        ledger.post(0, 4, 99, 77, 0);
        lines(ledger, 0, EURO, 54, 99, LOAN, -42, -77, GAIN, -12, 0);
        ledger.post(0, 4, -99, -77, 0);
        lines(ledger, 1, EURO, -54, -99, LOAN, 42, 77, GAIN, 12, 0);
        ledger.setRate(5, 200);
        ledger.post(0, 5, 3, 0, 0);
        lines(ledger, 2, EURO, 6, 3, GAIN, -6, 0);
    }

    private static void postRest() {
        SubLedger ledger = with("post p{rest euro;debit cash x;credit own y;}", "post q{debit cash x;rest cash;}");
        ledger.setRate(2, 30);
        ledger.post(0, 2, 10, 3, 0);
        lines(ledger, 0, CASH, 10, 0, 3, -3, 0, EURO, -7, -23);
        ledger.post(0, 2, 3, 10, 0);
        lines(ledger, 1, CASH, 3, 0, 3, -10, 0, EURO, 7, 23);
        ledger.post(0, 2, 8, 8, 0);
        lines(ledger, 2, CASH, 8, 0, 3, -8, 0);
        ledger.post(1, 2, 8, 8, 0);
        lines(ledger, 3, CASH, 8, 0, CASH, -8, 0);
        ledger.setRate(2, 200);
        ledger.post(0, 2, 1, 0, 0);
        lines(ledger, 4, CASH, 1, 0, EURO, -1, 0);
    }

    private static void postLeftOut() {
        SubLedger ledger = with("post p{debit cash x;debit euro y;debit euro z;credit cash x;}", "post q{rest cash;}");
        ledger.setRate(0, 50);
        ledger.post(0, 0, 0, 1, 0);
        lines(ledger, 0, EURO, 0, 1);
        ledger.post(0, 0, 4, 0, -1);
        lines(ledger, 1, CASH, 4, 0, EURO, 0, -1, CASH, -4, 0);
        Check.badState("no line", () -> ledger.post(0, 0, 0, 0, 0));
        Check.badState("no line of a rest", () -> ledger.post(1, 0, 5, 0, 0));
        Check.due("entries", 2, () -> ledger.count(2));
    }

    private static void postLimits() {
        SubLedger ledger = with("post p{debit cash x*10+y;rest gain;}", "post q{debit euro x*10+y;rest gain;}",
                "post r{debit cash x*10;debit cost0 x*10+y;rest gain;}", "post s{debit cash x*10+y;rest euro;}",
                "post t{debit cash 65536*65536+1;rest gain;}", "post u{credit cash 65536*32768;rest gain;}",
                "post v{debit cash x*10+y when z=1;debit cash 1;rest gain;}", "post w{debit gain 65536*32768;rest cash;}",
                "post aa{debit cash 5;debit cost0 x*10+y;credit cost0 x*10;rest gain;}");
        Check.due("1000000", 0, () -> ledger.post(0, 0, 100000, 0, 0));
        Check.due("-1000000", 1, () -> ledger.post(0, 0, -100000, 0, 0));
        Check.badState("1000001", () -> ledger.post(0, 0, 100000, 1, 0));
        Check.badState("-1000001", () -> ledger.post(0, 0, -100000, -1, 0));
        Check.due("foreign 1000000", 2, () -> ledger.post(1, 0, 100000, 0, 0));
        Check.badState("foreign 1000001", () -> ledger.post(1, 0, 100000, 1, 0));
        ledger.setRate(0, 200);
        Check.due("amount of a foreign one 1000000", 3, () -> ledger.post(1, 0, 50000, 0, 0));
        Check.badState("amount of a foreign one 1000002", () -> ledger.post(1, 0, 50000, 1, 0));
        ledger.setRate(0, 50);
        Check.badState("foreign 1000001 at half", () -> ledger.post(1, 0, 100000, 1, 0));
        Check.due("rest 1000000", 4, () -> ledger.post(2, 0, 50000, 0, 0));
        Check.badState("rest 1000001", () -> ledger.post(2, 0, 50000, 1, 0));
        Check.due("foreign rest 1000000", 5, () -> ledger.post(3, 0, 50000, 0, 0));
        Check.badState("foreign rest 1000002", () -> ledger.post(3, 0, 50000, 1, 0));
        ledger.setRate(0, 1);
        Check.badState("foreign rest, 32 bits and more", () -> ledger.post(3, 0, 100000, 0, 0));
        Check.due("wrapped sum", 6, () -> ledger.post(4, 0, 0, 0, 0));
        Check.badState("the least number turned round", () -> ledger.post(5, 0, 0, 0, 0));
        Check.badState("the least number", () -> ledger.post(7, 0, 0, 0, 0));
        Check.due("too much when it does not hold", 7, () -> ledger.post(6, 0, 100000, 1, 0));
        lines(ledger, 7, CASH, 1, 0, GAIN, -1, 0);
        Check.badState("too much when it holds", () -> ledger.post(6, 0, 100000, 1, 1));
        Check.badState("too much, beside others", () -> ledger.post(8, 0, 100000, 1, 0));
        Check.due("just not too much, beside others", 8, () -> ledger.post(8, 0, 100000, 0, 0));
    }

    private static void postWrong() {
        SubLedger ledger = with("post p{debit cash x;credit own y;}");
        Check.outOfBounds("template -1", () -> ledger.post(-1, 0, 1, 1, 0));
        Check.outOfBounds("template 1", () -> ledger.post(1, 0, 200000, 1, 0));
        Check.outOfBounds("period -1", () -> ledger.post(0, -1, 1, 1, 0));
        Check.outOfBounds("period 12", () -> ledger.post(0, 12, 200000, 1, 0));
        Check.badArgument("x 100001", () -> ledger.post(0, 0, 100001, 1, 0));
        Check.badArgument("x -100001", () -> ledger.post(0, 0, -100001, 1, 0));
        Check.badArgument("y 100001", () -> ledger.post(0, 0, 1, 100001, 0));
        Check.badArgument("y -100001", () -> ledger.post(0, 0, 1, -100001, 0));
        Check.badArgument("z 100001", () -> ledger.post(0, 0, 1, 1, 100001));
        Check.badArgument("z -100001", () -> ledger.post(0, 0, 1, 1, -100001));
        Check.due("inputs at their edges", 0, () -> ledger.post(0, 0, 100000, 100000, -100000));
        Check.due("inputs at their other edges", 1, () -> ledger.post(0, 11, -100000, -100000, 100000));
        Check.badState("it does not balance", () -> ledger.post(0, 0, 5, 6, 0));
        ledger.close(0);
        Check.badState("a closed period", () -> ledger.post(0, 0, 5, 5, 0));
        Check.badArgument("a closed period, and no x", () -> ledger.post(0, 0, 500000, 5, 0));
        Check.due("lines", 4, () -> ledger.count(4));
    }

    private static void postBalances() {
        SubLedger ledger = with("post p{debit cash x;rest gain;}", "post q{debit cash 1;debit cash of cash*10;rest gain;}",
                "post r{debit cash of euro;debit euro of euro;rest gain;}");
        ledger.post(0, 0, 5, 0, 0);
        ledger.post(0, 3, 100, 0, 0);
        ledger.post(1, 2, 0, 0, 0);
        lines(ledger, 2, CASH, 1, 0, CASH, 50, 0, GAIN, -51, 0);
        ledger.post(1, 3, 0, 0, 0);
        lines(ledger, 3, CASH, 1, 0, CASH, 1560, 0, GAIN, -1561, 0);
        SubLedger foreign = with("post p{debit euro x;rest gain;}", "post r{debit cash of euro;rest gain;}");
        foreign.setRate(0, 50);
        foreign.post(0, 0, 100, 0, 0);
        foreign.post(1, 0, 0, 0, 0);
        lines(foreign, 1, CASH, 50, 0, GAIN, -50, 0);
    }

    private static void fullOfEntries() {
        SubLedger ledger = with("post p{debit cash x;rest gain;}");
        for (int n = 0; n < 60; n++) {
            int number = n;
            Check.due("post " + n, number, () -> ledger.post(0, 0, 1, 0, 0));
        }
        Check.badState("the 61st entry", () -> ledger.post(0, 0, 1, 0, 0));
        Check.badState("the 61st entry by reversing", () -> ledger.reverse(0, 0));
        Check.due("entries", 60, () -> ledger.count(2));
        Check.due("lines", 120, () -> ledger.count(4));
    }

    private static void fullOfLines() {
        String seven = "post p{" + "debit cash 1;".repeat(7) + "rest gain;}";
        SubLedger ledger = with(seven, "post q{debit cash x;rest gain;}", "post r{debit cash x;debit cash y;rest gain;}");
        for (int n = 0; n < 37; n++) {
            ledger.post(0, 0, 0, 0, 0);
        }
        Check.due("lines", 296, () -> ledger.count(4));
        Check.badState("8 lines more", () -> ledger.post(0, 0, 0, 0, 0));
        ledger.post(1, 0, 1, 0, 0);
        Check.badState("reversing 8 lines", () -> ledger.reverse(0, 0));
        Check.badState("3 lines more", () -> ledger.post(2, 0, 1, 1, 0));
        Check.due("2 lines more", 38, () -> ledger.post(2, 0, 1, 0, 0));
        Check.due("lines", 300, () -> ledger.count(4));
        Check.badState("more than 300", () -> ledger.post(1, 0, 1, 0, 0));
        Check.badState("more than 300 by reversing", () -> ledger.reverse(37, 0));
    }

    private static void reverse() {
        SubLedger ledger = with("post p{debit euro x;credit cash y;rest gain;}");
        ledger.setRate(2, 55);
        ledger.post(0, 2, 99, 20, 0);
        Check.due("reverse", 1, () -> ledger.reverse(0, 7));
        lines(ledger, 1, EURO, -54, -99, CASH, 20, 0, GAIN, 34, 0);
        Check.due("period", 7, () -> ledger.entry(1, 0));
        Check.due("kind", 1, () -> ledger.entry(1, 1));
        Check.due("of which", 0, () -> ledger.entry(1, 2));
        Check.due("reversed by", 1, () -> ledger.entry(0, 6));
        Check.due("the reversal reversed by", -1, () -> ledger.entry(1, 6));
        Check.due("balance ahead", 54, () -> ledger.balance(EURO, 6, false));
        Check.due("balance behind", 0, () -> ledger.balance(EURO, 7, false));
        Check.due("foreign balance behind", 0, () -> ledger.balance(EURO, 7, true));
        ledger.post(0, 3, 10, 10, 0);
        ledger.close(0);
        ledger.close(1);
        ledger.close(2);
        Check.badState("reverse in a closed period", () -> ledger.reverse(2, 2));
        ledger.reopen(2);
        Check.due("reverse ahead of its period", 3, () -> ledger.reverse(2, 2));
    }

    private static void reverseWrong() {
        SubLedger ledger = with("post p{debit euro x;rest gain;}");
        ledger.post(0, 0, 10, 0, 0);
        ledger.post(0, 0, -5, 0, 0);
        Check.outOfBounds("entry -1", () -> ledger.reverse(-1, 0));
        Check.outOfBounds("entry 2", () -> ledger.reverse(2, 0));
        Check.outOfBounds("period -1", () -> ledger.reverse(0, -1));
        Check.outOfBounds("period 12", () -> ledger.reverse(0, 12));
        ledger.allocate(0, 2, 1);
        Check.badState("a debit that is allocated", () -> ledger.reverse(0, 0));
        Check.badState("a credit that is allocated", () -> ledger.reverse(1, 0));
        ledger.undo(0);
        Check.due("allocated no more", 2, () -> ledger.reverse(0, 0));
        Check.badState("reversed once", () -> ledger.reverse(0, 0));
        Check.badState("a reversal", () -> ledger.reverse(2, 0));
        ledger.setRate(0, 50);
        ledger.post(0, 1, 100, 0, 0);
        ledger.setRate(1, 10);
        ledger.close(0);
        Check.badState("a closed period", () -> ledger.reverse(1, 0));
        Check.due("a closing's entry", 2, () -> ledger.entry(4, 1));
        Check.badState("made by a closing", () -> ledger.reverse(4, 1));
        ledger.reopen(0);
        Check.badState("void", () -> ledger.reverse(4, 1));
        Check.due("entries", 5, () -> ledger.count(2));
        Check.due("opened again", 5, () -> ledger.reverse(1, 0));
    }

    private static void reverseWhenFull() {
        SubLedger ledger = with("post p{debit cash x;rest gain;}");
        for (int n = 0; n < 59; n++) {
            ledger.post(0, 0, 1, 0, 0);
        }
        Check.due("the 60th entry by reversing", 59, () -> ledger.reverse(0, 0));
        Check.badState("the 61st entry by reversing", () -> ledger.reverse(1, 0));
    }

    private static void told(SubLedger ledger, int entry, int... want) {
        for (int what = 0; what < want.length; what++) {
            int asked = what;
            Check.due("entry(" + entry + ", " + what + ")", want[what], () -> ledger.entry(entry, asked));
        }
    }

    private static void entry() {
        SubLedger ledger = with("post p{debit cash x;rest gain;}", "post q{debit euro x;debit cash y;rest gain;}");
        ledger.post(1, 3, 5, 5, 0);
        ledger.post(0, 4, 5, 0, 0);
        ledger.reverse(0, 5);
        ledger.setRate(3, 60);
        for (int p = 0; p <= 3; p++) {
            ledger.close(p);
        }
        told(ledger, 0, 3, 0, 1, 0, 3, 0, 2);
        told(ledger, 1, 4, 0, 0, 3, 2, 0, -1);
        told(ledger, 2, 5, 1, 0, 5, 3, 0, -1);
        told(ledger, 3, 3, 2, -1, 8, 2, 0, -1);
        told(ledger, 4, 3, 3, -1, 10, 2, 0, -1);
        ledger.reopen(3);
        told(ledger, 3, 3, 2, -1, 8, 2, 1, -1);
        told(ledger, 4, 3, 3, -1, 10, 2, 1, -1);
        Check.outOfBounds("entry(-1, 0)", () -> ledger.entry(-1, 0));
        Check.outOfBounds("entry(5, 0)", () -> ledger.entry(5, 0));
        Check.outOfBounds("entry(0, -1)", () -> ledger.entry(0, -1));
        Check.outOfBounds("entry(0, 7)", () -> ledger.entry(0, 7));
    }

    private static void line() {
        SubLedger ledger = with("post p{debit euro x;credit loan y;rest cash;}");
        ledger.setRate(0, 50);
        ledger.post(0, 0, 9, 8, 0);
        ledger.post(0, 0, -6, 0, 0);
        ledger.allocate(0, 2, 1);
        int[][] want = {{0, EURO, 4, 9, 3}, {0, LOAN, -4, -8, 4}, {1, EURO, -3, -6, 2}, {1, CASH, 3, 0, 0}};
        for (int l = 0; l < 4; l++) {
            for (int what = 0; what < 5; what++) {
                int number = l;
                int asked = what;
                Check.due("line(" + l + ", " + what + ")", want[l][what], () -> ledger.line(number, asked));
            }
        }
        ledger.setRate(0, 100);
        ledger.close(0);
        Check.due("revaluation's account", EURO, () -> ledger.line(4, 1));
        Check.due("revaluation's amount", 2, () -> ledger.line(4, 2));
        Check.due("revaluation's foreign amount", 0, () -> ledger.line(4, 3));
        Check.due("revaluation's open amount", 0, () -> ledger.line(4, 4));
        ledger.reopen(0);
        Check.due("void amount", 2, () -> ledger.line(4, 2));
        Check.due("void open amount", 0, () -> ledger.line(4, 4));
        Check.outOfBounds("line(-1, 0)", () -> ledger.line(-1, 0));
        Check.outOfBounds("line(7, 0)", () -> ledger.line(7, 0));
        Check.outOfBounds("line(0, -1)", () -> ledger.line(0, -1));
        Check.outOfBounds("line(0, 5)", () -> ledger.line(0, 5));
    }

    private static void balance() {
        SubLedger ledger = with("post p{debit euro x;credit cash y;rest gain;}");
        ledger.setRate(5, 150);
        ledger.post(0, 2, 10, 3, 0);
        ledger.post(0, 5, 10, 0, 0);
        ledger.post(0, 11, -4, 0, 0);
        int[][] want = {{1, 0, 0}, {2, 10, 10}, {4, 10, 10}, {5, 25, 20}, {10, 25, 20}, {11, 21, 16}};
        for (int[] one : want) {
            Check.due("balance up to " + one[0], one[1], () -> ledger.balance(EURO, one[0], false));
            Check.due("foreign balance up to " + one[0], one[2], () -> ledger.balance(EURO, one[0], true));
        }
        Check.due("balance of credits", -3, () -> ledger.balance(CASH, 11, false));
        Check.due("no foreign balance", 0, () -> ledger.balance(CASH, 11, true));
        ledger.close(0);
        ledger.close(1);
        ledger.setRate(2, 50);
        ledger.close(2);
        Check.due("with a revaluation", 5, () -> ledger.balance(EURO, 2, false));
        Check.due("foreign with a revaluation", 10, () -> ledger.balance(EURO, 2, true));
        ledger.reopen(2);
        Check.due("without a void revaluation", 10, () -> ledger.balance(EURO, 2, false));
        Check.due("later, without a void revaluation", 21, () -> ledger.balance(EURO, 11, false));
        Check.outOfBounds("account -1", () -> ledger.balance(-1, 0, false));
        Check.outOfBounds("account 6", () -> ledger.balance(6, 0, true));
        Check.outOfBounds("period -1", () -> ledger.balance(0, -1, false));
        Check.outOfBounds("period 12", () -> ledger.balance(0, 12, true));
    }

    private static void trial() {
        SubLedger ledger = with("post p{debit euro x;debit cash y;credit loan z;debit cost0 1;credit own 2;rest gain;}");
        ledger.post(0, 0, 10, 20, 7);
        ledger.post(0, 6, 100, 200, 70);
        int[][] want = {{0, 30, 330}, {1, -7, -77}, {2, -2, -4}, {3, -22, -251}, {4, 1, 2}};
        for (int[] one : want) {
            Check.due("trial(" + one[0] + ", 5)", one[1], () -> ledger.trial(one[0], 5));
            Check.due("trial(" + one[0] + ", 6)", one[2], () -> ledger.trial(one[0], 6));
        }
        Check.outOfBounds("trial(-1, 0)", () -> ledger.trial(-1, 0));
        Check.outOfBounds("trial(5, 0)", () -> ledger.trial(5, 0));
        Check.outOfBounds("trial(0, -1)", () -> ledger.trial(0, -1));
        Check.outOfBounds("trial(0, 12)", () -> ledger.trial(0, 12));
        Check.due("trial of nothing", 0, () -> new SubLedger().trial(4, 11));
    }
}
