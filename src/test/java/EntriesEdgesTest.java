/** The boundary cases that "2. Entries" and promises 8 to 14 name, one sentence after the other. */
public final class EntriesEdgesTest {
    private static final String ACCOUNTS = "account cash asset;account euro asset foreign;account gain income;account own equity;";
    private static final int CASH = 0;
    private static final int EURO = 1;
    private static final int GAIN = 2;
    private static final int MIN = Integer.MIN_VALUE;
    private static final int MAX = Integer.MAX_VALUE;

    public static void main(String[] args) {
        rates();
        inputs();
        amountLimit();
        foreignLimit();
        worthLimit();
        restLimit();
        foreignRestLimit();
        wrappedSums();
        sumsOfAmounts();
        cutTowardsZero();
        leftOut();
        noLine();
        restIsLast();
        balancesAhead();
        sixtyEntries();
        voidEntriesCount();
        threeHundredLines();
        voidLinesCount();
        reversalsAtTheLimits();
        reversalOfAll();
        reversedOnce();
        closedPeriods();
        numbersTold();
        balancesTold();
        voidLinesCountForNothing();
        Check.end("EntriesEdgesTest");
    }

    private static SubLedger with(String... templates) {
        return Check.taught(ACCOUNTS + String.join("", templates));
    }

    /** Account, amount and foreign amount of each line of an entry. */
    private static void lines(SubLedger ledger, int entry, int... want) {
        Check.due("lines of entry " + entry, want.length / 3, () -> ledger.entry(entry, 4));
        for (int i = 0; i < want.length; i++) {
            int line = ledger.entry(entry, 3) + i / 3;
            int what = i % 3 + 1;
            Check.due("entry " + entry + ", line " + i / 3 + ", " + what, want[i], () -> ledger.line(line, what));
        }
    }

    /** "a rate, 1 to 200 (100, at first)", "if rate is not 1 to 200", "if period is not 0 to 11". */
    private static void rates() {
        SubLedger ledger = new SubLedger();
        for (int p = 0; p < 12; p++) {
            int period = p;
            Check.due("the first rate of " + p, 100, () -> ledger.setRate(period, 1));
            Check.due("the least rate of " + p, 1, () -> ledger.setRate(period, 200));
            Check.due("the greatest rate of " + p, 200, () -> ledger.setRate(period, 200));
            for (int wrong : new int[] {0, 201, -1, MIN, MAX}) {
                Check.badArgument("rate " + wrong, () -> ledger.setRate(period, wrong));
            }
        }
        for (int wrong : new int[] {-1, 12, MIN, MAX}) {
            Check.outOfBounds("period " + wrong, () -> ledger.setRate(wrong, 100));
            Check.outOfBounds("period " + wrong + ", and no rate", () -> ledger.setRate(wrong, 0));
        }
    }

    /** "if x, y or z is not -100000 to 100000", "if there is no such template, or period is not 0 to 11". */
    private static void inputs() {
        SubLedger ledger = with("post p{debit cash x+y+z;rest gain;}");
        for (int edge : new int[] {100000, -100000}) {
            int out = edge > 0 ? edge + 1 : edge - 1;
            Check.due("x " + edge, edge, () -> ledger.line(2 * ledger.post(0, 0, edge, 0, 0), 2));
            Check.due("y " + edge, edge, () -> ledger.line(2 * ledger.post(0, 0, 0, edge, 0), 2));
            Check.due("z " + edge, edge, () -> ledger.line(2 * ledger.post(0, 0, 0, 0, edge), 2));
            for (int wrong : new int[] {out, edge > 0 ? MAX : MIN}) {
                Check.badArgument("x " + wrong, () -> ledger.post(0, 0, wrong, 0, 0));
                Check.badArgument("y " + wrong, () -> ledger.post(0, 0, 0, wrong, 0));
                Check.badArgument("z " + wrong, () -> ledger.post(0, 0, 0, 0, wrong));
            }
        }
        for (int wrong : new int[] {-1, 12, MIN, MAX}) {
            Check.outOfBounds("period " + wrong, () -> ledger.post(0, wrong, 1, 0, 0));
        }
        for (int wrong : new int[] {-1, 1, MIN, MAX}) {
            Check.outOfBounds("template " + wrong, () -> ledger.post(wrong, 0, 1, 0, 0));
        }
        Check.due("period 11", 6, () -> ledger.post(0, 11, 1, 0, 0));
    }

    /** "an amount ... is more than 1000000 or less than -1000000", of a line beside others that balance. */
    private static void amountLimit() {
        SubLedger ledger = with("post p{debit cash x*10+y;credit own x*10+y;}", "post q{debit cash 5;credit own 5;debit cash x*10+y;}");
        Check.due("1000000 and -1000000", 0, () -> ledger.post(0, 0, 100000, 0, 0));
        lines(ledger, 0, CASH, 1000000, 0, 3, -1000000, 0);
        Check.due("-1000000 and 1000000", 1, () -> ledger.post(0, 0, -100000, 0, 0));
        Check.badState("1000001", () -> ledger.post(0, 0, 100000, 1, 0));
        Check.badState("-1000001", () -> ledger.post(0, 0, -100000, -1, 0));
        Check.badState("1000001 beside lines that balance", () -> ledger.post(1, 0, 100000, 1, 0));
        SubLedger credit = with("post p{debit cash 5;credit own 5;credit cash x*10+y;credit cash -(x*10+y);}");
        Check.due("a credit of 1000000", 0, () -> credit.post(0, 0, 100000, 0, 0));
        Check.badState("a credit of 1000001", () -> credit.post(0, 0, 100000, 1, 0));
        Check.badState("a credit of -1000001", () -> credit.post(0, 0, -100000, -1, 0));
    }

    /** "or foreign amount": too large, though its amount is small, and other lines balance. */
    private static void foreignLimit() {
        SubLedger ledger = with("post p{debit euro x*10+y;credit euro x*10+y;}", "post q{debit euro x*10+y;rest gain;}",
                "post r{debit cash 5;credit own 5;debit euro x*10+y;rest gain;}");
        ledger.setRate(0, 1);
        Check.due("1000000", 0, () -> ledger.post(0, 0, 100000, 0, 0));
        lines(ledger, 0, EURO, 10000, 1000000, EURO, -10000, -1000000);
        Check.due("-1000000", 1, () -> ledger.post(0, 0, -100000, 0, 0));
        for (int template = 0; template < 3; template++) {
            int used = template;
            Check.badState("1000001", () -> ledger.post(used, 0, 100000, 1, 0));
            Check.badState("-1000001", () -> ledger.post(used, 0, -100000, -1, 0));
        }
        Check.due("1000000 with a rest", 2, () -> ledger.post(1, 0, 100000, 0, 0));
        lines(ledger, 2, EURO, 10000, 1000000, GAIN, -10000, 0);
    }

    /** The amount of a foreign line is too large, though its foreign amount is not. */
    private static void worthLimit() {
        SubLedger ledger = with("post p{debit euro x;credit euro x;}", "post q{debit cash 5;credit own 5;debit euro x*5+y;}",
                "post r{debit euro x*5+y;credit cash x*10;}");
        ledger.setRate(0, 200);
        Check.due("1000000", 0, () -> ledger.post(2, 0, 100000, 0, 0));
        Check.due("-1000000", 1, () -> ledger.post(2, 0, -100000, 0, 0));
        lines(ledger, 1, EURO, -1000000, -500000, CASH, 1000000, 0);
        Check.badState("1000002 beside others", () -> ledger.post(1, 0, 100000, 1, 0));
        SubLedger beside = with("post p{debit euro x*10;credit euro x*10;}");
        beside.setRate(0, 101);
        Check.badState("1010000 and -1010000", () -> beside.post(0, 0, 100000, 0, 0));
        Check.due("999900 and -999900", 0, () -> beside.post(0, 0, 99000, 0, 0));
        lines(beside, 0, EURO, 999900, 990000, EURO, -999900, -990000);
    }

    /** The rest's amount. */
    private static void restLimit() {
        SubLedger ledger = with("post p{debit cash x*5;debit cash x*5+y;rest gain;}");
        Check.due("a rest of -1000000", 0, () -> ledger.post(0, 0, 100000, 0, 0));
        lines(ledger, 0, CASH, 500000, 0, CASH, 500000, 0, GAIN, -1000000, 0);
        Check.due("a rest of 1000000", 1, () -> ledger.post(0, 0, -100000, 0, 0));
        Check.badState("a rest of -1000001", () -> ledger.post(0, 0, 100000, 1, 0));
        Check.badState("a rest of 1000001", () -> ledger.post(0, 0, -100000, -1, 0));
    }

    /** The rest's foreign amount, and "ahead of being cut down to 32 bits". */
    private static void foreignRestLimit() {
        SubLedger ledger = with("post p{debit cash x*5+y;rest euro;}", "post q{debit cash x*5;debit cash x*5;rest euro;}");
        ledger.setRate(0, 50);
        Check.due("a foreign rest of -1000000", 0, () -> ledger.post(0, 0, 100000, 0, 0));
        lines(ledger, 0, CASH, 500000, 0, EURO, -500000, -1000000);
        Check.due("a foreign rest of 1000000", 1, () -> ledger.post(0, 0, -100000, 0, 0));
        Check.badState("a foreign rest of -1000002", () -> ledger.post(0, 0, 100000, 1, 0));
        Check.badState("a foreign rest of 1000002", () -> ledger.post(0, 0, -100000, -1, 0));
        ledger.setRate(0, 1);
        Check.due("a foreign rest of 1000000 at 1", 2, () -> ledger.post(0, 0, -2000, 0, 0));
        Check.badState("a foreign rest of 1000100 at 1", () -> ledger.post(0, 0, -2000, -1, 0));
        Check.badState("a foreign rest of 100000000", () -> ledger.post(1, 0, -100000, 0, 0));
        ledger.setRate(0, 200);
        Check.due("a foreign rest of half", 3, () -> ledger.post(1, 0, -100000, 0, 0));
        lines(ledger, 3, CASH, -500000, 0, CASH, -500000, 0, EURO, 1000000, 500000);
    }

    /** Sums wrap around ahead of the check; what is turned round for a credit does not. */
    private static void wrappedSums() {
        SubLedger ledger = with("post p{debit cash 65536*65536+x;credit own 65536*65536+x;}",
                "post q{credit cash 65536*32768;debit own 65536*32768;}", "post r{debit cash 5;credit own 5;credit cash 65536*32768;}",
                "post s{debit cash 65536*32767;rest gain;}", "post t{debit euro 65536*32768;rest gain;}",
                "post u{debit euro 65536*x;credit euro 65536*x;}");
        Check.due("a product that wraps around to 0", 0, () -> ledger.post(0, 0, 7, 0, 0));
        Check.due("a product that wraps around to x", 7, () -> ledger.balance(CASH, 0, false));
        for (int template = 1; template <= 4; template++) {
            int used = template;
            Check.badState("far too much, by template " + template, () -> ledger.post(used, 0, 0, 0, 0));
        }
        ledger.setRate(0, 200);
        // 65536 * 32760 * 200 wraps around to a small number in 32 bits.
        Check.badState("a foreign amount whose worth wraps around", () -> ledger.post(5, 0, 32760, 0, 0));
        Check.due("a foreign amount that does not", 1, () -> ledger.post(5, 0, 7, 0, 0));
    }

    /** "all amounts, added, are not 0 then": only the sum at last counts, and it can be far more on the way. */
    private static void sumsOfAmounts() {
        SubLedger ledger = with("post p{" + "debit cash x*10;".repeat(4) + "credit own x*10;".repeat(3) + "credit own x*10+y;}",
                "post q{" + "debit cash x*10;".repeat(4) + "credit own x*10;".repeat(3) + "rest own;}",
                "post r{debit cash x;credit own y;}");
        Check.due("four millions and four back", 0, () -> ledger.post(0, 0, 100000, 0, 0));
        Check.badState("one more", () -> ledger.post(0, 0, 99999, 1, 0));
        Check.badState("one less", () -> ledger.post(0, 0, 99999, -1, 0));
        Check.due("four millions, three and the rest", 1, () -> ledger.post(1, 0, 100000, 0, 0));
        Check.badState("5 and 6", () -> ledger.post(2, 0, 5, 6, 0));
        Check.badState("6 and 5", () -> ledger.post(2, 0, 6, 5, 0));
        Check.badState("5 and -5", () -> ledger.post(2, 0, 5, -5, 0));
        Check.due("5 and 5", 2, () -> ledger.post(2, 0, 5, 5, 0));
        SubLedger foreign = with("post p{debit euro x;credit cash x;}", "post q{debit euro x;rest gain;}");
        foreign.setRate(0, 50);
        Check.badState("a foreign line counts with its amount", () -> foreign.post(0, 0, 10, 0, 0));
        Check.due("and its rest does, too", 0, () -> foreign.post(1, 0, 10, 0, 0));
        lines(foreign, 0, EURO, 5, 10, GAIN, -5, 0);
    }

    /** "this * the rate / 100" and "its amount * 100 / the rate" are cut towards 0. */
    private static void cutTowardsZero() {
        SubLedger ledger = with("post p{debit euro x;rest gain;}", "post q{debit cash x;rest euro;}");
        ledger.setRate(0, 199);
        ledger.post(0, 0, 1, 0, 0);
        lines(ledger, 0, EURO, 1, 1, GAIN, -1, 0);
        ledger.post(0, 0, -1, 0, 0);
        lines(ledger, 1, EURO, -1, -1, GAIN, 1, 0);
        ledger.post(1, 0, 1, 0, 0);
        lines(ledger, 2, CASH, 1, 0, EURO, -1, 0);
        ledger.post(1, 0, -1, 0, 0);
        lines(ledger, 3, CASH, -1, 0, EURO, 1, 0);
        ledger.post(1, 0, 3, 0, 0);
        lines(ledger, 4, CASH, 3, 0, EURO, -3, -1);
        ledger.setRate(0, 1);
        ledger.post(0, 0, -199, 0, 0);
        lines(ledger, 5, EURO, -1, -199, GAIN, 1, 0);
        Check.due("foreign balance", -199 - 1, () -> ledger.balance(EURO, 0, true));
    }

    /** "A line with the amount 0 is left out, if its foreign amount is 0, too, or it has none." */
    private static void leftOut() {
        SubLedger ledger = with("post p{debit cash y;debit euro x;credit euro z;credit cash y;}");
        ledger.setRate(0, 1);
        ledger.post(0, 0, 99, 0, -99);
        lines(ledger, 0, EURO, 0, 99, EURO, 0, 99);
        ledger.post(0, 0, 99, 0, 0);
        lines(ledger, 1, EURO, 0, 99);
        ledger.post(0, 0, 0, 1, 0);
        lines(ledger, 2, CASH, 1, 0, CASH, -1, 0);
        ledger.post(0, 0, 0, 1, 1);
        lines(ledger, 3, CASH, 1, 0, EURO, 0, -1, CASH, -1, 0);
        Check.badState("all left out", () -> ledger.post(0, 0, 0, 0, 0));
        Check.due("lines of euro", 4, () -> ledger.account(EURO, 3));
    }

    /** "it has no line". */
    private static void noLine() {
        SubLedger ledger = with("post p{rest cash;}", "post q{debit cash x when y=1;credit own x when y=1;}",
                "post r{debit cash x-x;rest euro;}");
        Check.badState("a rest alone", () -> ledger.post(0, 0, 5, 5, 5));
        Check.badState("tests that fail", () -> ledger.post(1, 0, 5, 0, 0));
        Check.badState("amounts of 0", () -> ledger.post(1, 0, 0, 1, 0));
        Check.badState("amounts of 0, and a rest", () -> ledger.post(2, 0, 5, 0, 0));
        Check.due("no entries", 0, () -> ledger.count(2));
        Check.due("tests that hold", 0, () -> ledger.post(1, 0, 5, 1, 0));
    }

    /** "At last, if the template has a rest, and all amounts, added, are not 0, a line on its account". */
    private static void restIsLast() {
        SubLedger ledger = with("post p{rest gain;debit cash x;credit own y;}", "post q{debit cash x;rest cash;credit own y;}");
        ledger.post(0, 0, 5, 3, 0);
        lines(ledger, 0, CASH, 5, 0, 3, -3, 0, GAIN, -2, 0);
        ledger.post(0, 0, 5, 5, 0);
        lines(ledger, 1, CASH, 5, 0, 3, -5, 0);
        ledger.post(1, 0, 5, 6, 0);
        lines(ledger, 2, CASH, 5, 0, 3, -6, 0, CASH, 1, 0);
    }

    /** "of the balance of an account up to the period, ahead of the posting". */
    private static void balancesAhead() {
        SubLedger ledger = with("post p{debit cash x;rest gain;}", "post q{debit cash of cash;debit cash of cash;credit own of gain;rest own;}");
        ledger.post(0, 3, 10, 0, 0);
        ledger.post(0, 4, 100, 0, 0);
        ledger.post(0, 5, 1000, 0, 0);
        ledger.post(1, 4, 0, 0, 0);
        lines(ledger, 3, CASH, 110, 0, CASH, 110, 0, 3, 110, 0, 3, -330, 0);
        Check.badState("nothing up to 2", () -> ledger.post(1, 2, 0, 0, 0));
        ledger.post(1, 3, 0, 0, 0);
        lines(ledger, 4, CASH, 10, 0, CASH, 10, 0, 3, 10, 0, 3, -30, 0);
    }

    /** "There are at most 60 entries". */
    private static void sixtyEntries() {
        SubLedger ledger = with("post p{debit cash x;rest gain;}");
        for (int n = 0; n < 58; n++) {
            ledger.post(0, n % 12, 1, 0, 0);
        }
        Check.due("the 59th", 58, () -> ledger.post(0, 5, 1, 0, 0));
        Check.due("the 60th", 59, () -> ledger.reverse(0, 5));
        long before = ledger.digest();
        Check.badState("the 61st", () -> ledger.post(0, 5, 1, 0, 0));
        Check.badState("the 61st by reversing", () -> ledger.reverse(1, 5));
        Check.due("nothing is changed", before, ledger::digest);
        Check.due("the 60th told", 1, () -> ledger.entry(59, 1));
        Check.outOfBounds("the 61st told", () -> ledger.entry(60, 0));
    }

    /** Void entries are entries still: they count for the 60. */
    private static void voidEntriesCount() {
        SubLedger ledger = with("post p{debit euro x;rest gain;}");
        ledger.post(0, 0, 100, 0, 0);
        ledger.setRate(0, 150);
        for (int n = 1; n <= 58; n++) {
            ledger.close(0);
            ledger.reopen(0);
        }
        Check.due("entries", 59, () -> ledger.count(2));
        Check.due("void ones", 58, () -> ledger.count(3));
        Check.due("the 60th by closing", 2, () -> ledger.close(0));
        ledger.reopen(0);
        Check.badState("the 61st by closing", () -> ledger.close(0));
        Check.badState("the 61st by posting", () -> ledger.post(0, 0, 1, 0, 0));
        Check.badState("the 61st by reversing", () -> ledger.reverse(0, 0));
        Check.due("without it, if it cannot be posted", 100, () -> ledger.would(0, 0, 1, 0, 0, EURO));
        ledger.setRate(0, 100);
        Check.due("a closing without entries", 0, () -> ledger.close(0));
        Check.due("void ones", 59, () -> ledger.count(3));
    }

    private static SubLedger withLines(int lines) {
        SubLedger ledger = with("post p{debit cash x;credit own x;}", "post q{debit cash x;debit cash 1;credit own x+1;}",
                "post r{" + "debit cash 1;".repeat(7) + "rest gain;}");
        while (ledger.count(4) + 8 + 6 <= lines) {
            ledger.post(2, 0, 0, 0, 0);
        }
        while (lines - ledger.count(4) > 4) {
            ledger.post(1, 0, 2, 0, 0);
        }
        while (lines - ledger.count(4) > 0) {
            ledger.post(lines - ledger.count(4) == 3 ? 1 : 0, 0, 2, 0, 0);
        }
        Check.due("lines", lines, () -> ledger.count(4));
        return ledger;
    }

    /** "and 300 lines in all". */
    private static void threeHundredLines() {
        int[] more = {2, 3, 8};
        for (int lines = 292; lines <= 300; lines++) {
            for (int template = 0; template < 3; template++) {
                SubLedger ledger = withLines(lines);
                int used = template;
                int entries = ledger.count(2);
                String call = more[template] + " lines more than " + lines;
                if (lines + more[template] <= 300) {
                    Check.due(call, entries, () -> ledger.post(used, 0, 2, 0, 0));
                    Check.due("lines behind " + call, lines + more[template], () -> ledger.count(4));
                } else {
                    Check.badState(call, () -> ledger.post(used, 0, 2, 0, 0));
                    Check.due("lines behind " + call, lines, () -> ledger.count(4));
                }
            }
        }
        SubLedger full = withLines(300);
        Check.due("the 300th", full.count(2) - 1, () -> full.line(299, 0));
        Check.outOfBounds("the 301st", () -> full.line(300, 0));
    }

    /** Void lines are lines still: they count for the 300. */
    private static void voidLinesCount() {
        StringBuilder text = new StringBuilder();
        for (int i = 0; i < 15; i++) {
            text.append("account a").append(i).append(" asset foreign;");
        }
        text.append("account i income;");
        for (int half = 0; half < 2; half++) {
            text.append("post p").append(half).append("{");
            for (int i = 8 * half; i < 7 + 8 * half; i++) {
                text.append("debit a").append(i).append(" x;");
            }
            text.append("rest i;}");
        }
        SubLedger ledger = Check.taught(text + "post q{debit a14 x;debit a7 y;rest i;}post r{debit a7 x;credit i x;}");
        ledger.post(0, 0, 100, 0, 0);
        ledger.post(1, 0, 100, 0, 0);
        ledger.post(2, 0, 7, 100, 0);
        ledger.post(2, 0, 7, 1, 0);
        ledger.setRate(0, 150);
        // 22 lines, and 16 more by each closing.
        for (int n = 1; n <= 17; n++) {
            Check.due("closing " + n, 16, () -> ledger.close(0));
            Check.due("opening " + n, 16, () -> ledger.reopen(0));
        }
        Check.due("lines", 294, () -> ledger.count(4));
        Check.badState("16 lines more", () -> ledger.close(0));
        Check.badState("8 lines more", () -> ledger.post(0, 0, 1, 0, 0));
        Check.due("3 lines more", 21, () -> ledger.post(2, 0, 1, 1, 0));
        Check.due("3 lines more by reversing", 22, () -> ledger.reverse(21, 0));
        Check.due("lines", 300, () -> ledger.count(4));
        Check.badState("2 lines more", () -> ledger.post(3, 0, 1, 0, 0));
        Check.badState("3 lines more by reversing", () -> ledger.reverse(3, 0));
    }

    /** "there would be too many entries or lines", by reversing. */
    private static void reversalsAtTheLimits() {
        int[] ofLines = {8, 3, 2};
        for (int lines = 292; lines <= 300; lines++) {
            for (int reversed : ofLines) {
                SubLedger ledger = withLines(lines);
                int entry = firstWith(ledger, reversed);
                int entries = ledger.count(2);
                String call = "reversing " + reversed + " lines of " + lines;
                if (entry >= 0 && lines + reversed <= 300) {
                    Check.due(call, entries, () -> ledger.reverse(entry, 11));
                } else if (entry >= 0) {
                    Check.badState(call, () -> ledger.reverse(entry, 11));
                    Check.due("not reversed", -1, () -> ledger.entry(entry, 6));
                }
            }
        }
    }

    /** The first entry with so many lines, -1 if there is none. */
    private static int firstWith(SubLedger ledger, int lines) {
        for (int e = 0; e < ledger.count(2); e++) {
            if (ledger.entry(e, 4) == lines) {
                return e;
            }
        }
        return -1;
    }

    /** "the same lines in their order, all amounts turned round", those of 0, and at whatever rate. */
    private static void reversalOfAll() {
        SubLedger ledger = with("post p{debit euro x;credit cash y;debit euro z;debit cash y;rest gain;}");
        ledger.setRate(0, 50);
        ledger.setRate(1, 199);
        ledger.post(0, 0, 100000, 7, 1);
        lines(ledger, 0, EURO, 50000, 100000, CASH, -7, 0, EURO, 0, 1, CASH, 7, 0, GAIN, -50000, 0);
        Check.due("reverse", 1, () -> ledger.reverse(0, 1));
        lines(ledger, 1, EURO, -50000, -100000, CASH, 7, 0, EURO, 0, -1, CASH, -7, 0, GAIN, 50000, 0);
        for (int a = 0; a < 3; a++) {
            int account = a;
            Check.due("balance", 0, () -> ledger.balance(account, 1, false));
            Check.due("foreign balance", 0, () -> ledger.balance(account, 1, true));
        }
    }

    /** "An entry can be reversed once; one that is a reversal, is void, or was made by a closing, cannot." */
    private static void reversedOnce() {
        SubLedger ledger = with("post p{debit euro x;rest gain;}");
        ledger.post(0, 0, 100, 0, 0);
        ledger.post(0, 3, 7, 0, 0);
        Check.due("reverse", 2, () -> ledger.reverse(1, 5));
        Check.badState("the same once more", () -> ledger.reverse(1, 5));
        Check.badState("the same in another period", () -> ledger.reverse(1, 6));
        Check.badState("the reversal", () -> ledger.reverse(2, 5));
        for (int p = 0; p < 4; p++) {
            ledger.setRate(p, 150);
            ledger.close(p);
        }
        Check.due("a revaluation", 2, () -> ledger.entry(3, 1));
        Check.badState("reverse a revaluation", () -> ledger.reverse(3, 5));
        Check.due("a result", 3, () -> ledger.entry(5, 1));
        Check.badState("reverse a result", () -> ledger.reverse(5, 5));
        ledger.reopen(3);
        Check.badState("reverse a void result", () -> ledger.reverse(5, 5));
        Check.badState("reverse a void revaluation", () -> ledger.reverse(4, 5));
        Check.due("reverse what was posted", 6, () -> ledger.reverse(0, 5));
        Check.due("reversed by", 6, () -> ledger.entry(0, 6));
        Check.due("reversed by", 2, () -> ledger.entry(1, 6));
        for (int e = 2; e < 7; e++) {
            int entry = e;
            Check.due("reversed by none " + e, -1, () -> ledger.entry(entry, 6));
        }
    }

    /** "the period is closed": of the posting or the reversal, not of the entry that is reversed. */
    private static void closedPeriods() {
        SubLedger ledger = with("post p{debit cash x;rest gain;}");
        ledger.post(0, 0, 5, 0, 0);
        ledger.post(0, 1, 5, 0, 0);
        ledger.close(0);
        Check.badState("post in the last closed one", () -> ledger.post(0, 0, 5, 0, 0));
        Check.badState("reverse in the last closed one", () -> ledger.reverse(1, 0));
        Check.badState("setRate of the last closed one", () -> ledger.setRate(0, 50));
        Check.due("setRate of the first open one", 100, () -> ledger.setRate(1, 100));
        Check.due("post in the first open one", 2, () -> ledger.post(0, 1, 5, 0, 0));
        Check.due("reverse of a closed one's entry", 3, () -> ledger.reverse(0, 1));
        for (int p = 1; p < 12; p++) {
            ledger.close(p);
        }
        for (int p = 0; p < 12; p++) {
            int period = p;
            Check.badState("post when all are closed", () -> ledger.post(0, period, 5, 0, 0));
            Check.badState("reverse when all are closed", () -> ledger.reverse(1, period));
            Check.badState("setRate when all are closed", () -> ledger.setRate(period, 50));
        }
        ledger.reopen(11);
        Check.due("reverse in the one that is open again", ledger.count(2), () -> ledger.reverse(1, 11));
    }

    /** "if there is no such entry, or what is not 0 to 6", and so on. */
    private static void numbersTold() {
        SubLedger ledger = with("post p{debit cash x;rest gain;}");
        Check.outOfBounds("entry of none", () -> ledger.entry(0, 0));
        Check.outOfBounds("line of none", () -> ledger.line(0, 0));
        Check.outOfBounds("reverse of none", () -> ledger.reverse(0, 0));
        ledger.post(0, 0, 5, 0, 0);
        Check.due("the last that entry tells", -1, () -> ledger.entry(0, 6));
        Check.due("the last that line tells", 0, () -> ledger.line(1, 4));
        for (int wrong : new int[] {-1, 7, MIN, MAX}) {
            Check.outOfBounds("entry(0, " + wrong + ")", () -> ledger.entry(0, wrong));
            Check.outOfBounds("entry(" + wrong + ", 0)", () -> ledger.entry(wrong, 0));
            Check.outOfBounds("line(0, " + wrong + ")", () -> ledger.line(0, wrong));
            Check.outOfBounds("line(" + wrong + ", 0)", () -> ledger.line(wrong, 0));
            Check.outOfBounds("reverse(" + wrong + ", 0)", () -> ledger.reverse(wrong, 0));
            Check.outOfBounds("trial(" + wrong + ", 0)", () -> ledger.trial(wrong, 0));
        }
        Check.outOfBounds("entry(1, 0)", () -> ledger.entry(1, 0));
        Check.outOfBounds("line(2, 0)", () -> ledger.line(2, 0));
        Check.outOfBounds("line(0, 5)", () -> ledger.line(0, 5));
        Check.outOfBounds("reverse(1, 0)", () -> ledger.reverse(1, 0));
        for (int wrong : new int[] {-1, 12, MIN, MAX}) {
            Check.outOfBounds("reverse(0, " + wrong + ")", () -> ledger.reverse(0, wrong));
            Check.outOfBounds("trial(0, " + wrong + ")", () -> ledger.trial(0, wrong));
            Check.outOfBounds("balance(0, " + wrong + ")", () -> ledger.balance(0, wrong, false));
            Check.outOfBounds("foreign balance(0, " + wrong + ")", () -> ledger.balance(0, wrong, true));
        }
        for (int wrong : new int[] {-1, 4, MIN, MAX}) {
            Check.outOfBounds("balance(" + wrong + ", 0)", () -> ledger.balance(wrong, 0, false));
            Check.outOfBounds("foreign balance(" + wrong + ", 0)", () -> ledger.balance(wrong, 0, true));
        }
        Check.outOfBounds("trial(5, 0)", () -> ledger.trial(5, 0));
        Check.outOfBounds("balance without accounts", () -> new SubLedger().balance(0, 0, false));
    }

    /** "in this period and the ones ahead of it": of a line in each period, at each period. */
    private static void balancesTold() {
        for (int period = 0; period < 12; period++) {
            SubLedger ledger = with("post p{debit euro x;rest gain;}");
            ledger.setRate(period, 50);
            ledger.post(0, period, 10, 0, 0);
            int first = period;
            for (int p = 0; p < 12; p++) {
                int upTo = p;
                boolean isIn = upTo >= first;
                String label = " up to " + upTo + " of a line in " + first;
                Check.due("balance" + label, isIn ? 5 : 0, () -> ledger.balance(EURO, upTo, false));
                Check.due("foreign balance" + label, isIn ? 10 : 0, () -> ledger.balance(EURO, upTo, true));
                Check.due("trial" + label, isIn ? -5 : 0, () -> ledger.trial(3, upTo));
                Check.due("none of it foreign" + label, 0, () -> ledger.balance(GAIN, upTo, true));
                Check.due("another kind" + label, 0, () -> ledger.trial(1, upTo));
            }
        }
    }

    /** "Entries can be void: their lines count for nothing any more." */
    private static void voidLinesCountForNothing() {
        SubLedger ledger = with("post p{debit euro x;rest gain;}", "post q{debit cash of euro;rest own;}");
        ledger.post(0, 0, 100, 0, 0);
        ledger.setRate(0, 150);
        ledger.close(0);
        Check.due("trial ahead", 150, () -> ledger.trial(0, 0));
        ledger.reopen(0);
        Check.due("trial", 100, () -> ledger.trial(0, 0));
        Check.due("trial of income", -100, () -> ledger.trial(3, 11));
        Check.due("balance", 100, () -> ledger.balance(EURO, 0, false));
        Check.due("balance later on", 100, () -> ledger.balance(EURO, 11, false));
        Check.due("foreign balance", 100, () -> ledger.balance(EURO, 11, true));
        Check.due("lines of the account", 1, () -> ledger.account(EURO, 3));
        Check.due("entries of the period", 1, () -> ledger.period(0, 2));
        ledger.post(1, 0, 0, 0, 0);
        lines(ledger, 2, CASH, 100, 0, 3, -100, 0);
        Check.due("closing again", 2, () -> ledger.close(0));
        lines(ledger, 3, EURO, 50, 0, GAIN, -50, 0);
        Check.due("void told", 1, () -> ledger.entry(1, 5));
        Check.due("the first line of a void one stays", 2, () -> ledger.entry(1, 3));
        Check.due("the lines of a void one stay", 2, () -> ledger.entry(1, 4));
        Check.due("the amount of a void one stays", 50, () -> ledger.line(2, 2));
    }
}
