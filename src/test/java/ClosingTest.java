/** Promises 20 to 23: close, reopen, period, restated. */
public final class ClosingTest {
    private static final String TEXT = "account yen asset foreign;account sales income items;account fees income;"
            + "account loan debt foreign;account rent cost;account own equity;account more equity;"
            + "post p{debit yen x;credit loan y;rest sales;}post q{debit rent x;credit fees y;rest own;}";
    private static final int YEN = 0;
    private static final int SALES = 1;
    private static final int FEES = 2;
    private static final int LOAN = 3;
    private static final int RENT = 4;
    private static final int OWN = 5;

    public static void main(String[] args) {
        order();
        revaluation();
        revaluationCut();
        revaluationNone();
        result();
        resultBehindRevaluation();
        resultNone();
        limitOfEntries();
        limitOfLines();
        reopen();
        period();
        restated();
        Check.end("ClosingTest");
    }

    private static void order() {
        SubLedger ledger = new SubLedger();
        Check.outOfBounds("close(-1)", () -> ledger.close(-1));
        Check.outOfBounds("close(12)", () -> ledger.close(12));
        Check.outOfBounds("reopen(-1)", () -> ledger.reopen(-1));
        Check.outOfBounds("reopen(12)", () -> ledger.reopen(12));
        Check.badState("close(1) first", () -> ledger.close(1));
        Check.badState("reopen(0) when none is closed", () -> ledger.reopen(0));
        for (int p = 0; p < 12; p++) {
            int period = p;
            Check.due("close(" + p + ")", 0, () -> ledger.close(period));
            Check.badState("close(" + p + ") again", () -> ledger.close(period));
            Check.due("closed ones", p + 1, () -> ledger.count(6));
        }
        Check.badState("close(0) when all are closed", () -> ledger.close(0));
        Check.badState("reopen(10) ahead of 11", () -> ledger.reopen(10));
        Check.due("reopen(11)", 0, () -> ledger.reopen(11));
        Check.badState("reopen(11) again", () -> ledger.reopen(11));
        Check.due("reopen(10)", 0, () -> ledger.reopen(10));
        Check.badState("close(11) ahead of 10", () -> ledger.close(11));
        Check.due("closed ones", 10, () -> ledger.count(6));
    }

    private static void lines(SubLedger ledger, int entry, int... want) {
        Check.due("lines of entry " + entry, want.length / 2, () -> ledger.entry(entry, 4));
        for (int i = 0; i < want.length; i++) {
            int line = ledger.entry(entry, 3) + i / 2;
            int what = i % 2 + 1;
            Check.due("entry " + entry + ", line " + i / 2 + ", " + what, want[i], () -> ledger.line(line, what));
            Check.due("foreign of " + line, 0, () -> ledger.line(line, 3));
        }
    }

    private static void revaluation() {
        SubLedger ledger = Check.taught(TEXT);
        ledger.post(0, 0, 100, 40, 0);
        ledger.post(0, 1, 1000, 400, 0);
        ledger.setRate(0, 150);
        Check.due("close(0)", 3, () -> ledger.close(0));
        lines(ledger, 2, YEN, 50, LOAN, -20, SALES, -30);
        Check.due("period of it", 0, () -> ledger.entry(2, 0));
        Check.due("kind of it", 2, () -> ledger.entry(2, 1));
        Check.due("its source", -1, () -> ledger.entry(2, 2));
        ledger.setRate(1, 50);
        Check.due("close(1)", 3, () -> ledger.close(1));
        lines(ledger, 3, YEN, -600, LOAN, 240, SALES, 360);
        ledger.setRate(2, 50);
        Check.due("close(2) at the same rate", 0, () -> ledger.close(2));
        Check.due("no entry without lines", 4, () -> ledger.count(2));
        Check.due("balance", 550, () -> ledger.balance(YEN, 2, false));
        Check.due("foreign balance stays", 1100, () -> ledger.balance(YEN, 2, true));
    }

    private static void revaluationCut() {
        SubLedger ledger = Check.taught(TEXT);
        ledger.post(0, 0, 99, 99, 0);
        ledger.setRate(0, 55);
        Check.due("two that cancel out", 2, () -> ledger.close(0));
        lines(ledger, 1, YEN, -45, LOAN, 45);
        SubLedger big = Check.taught("account yen asset foreign;account own equity;account sales income;post p{debit yen x*10;"
                + "rest sales;}");
        for (int n = 0; n < 55; n++) {
            big.post(0, 0, 100000, 0, 0);
        }
        big.setRate(0, 200);
        Check.due("beyond 32 bits ahead of the division", 2, () -> big.close(0));
        lines(big, 55, YEN, 55000000, 2, -55000000);
    }

    private static void revaluationNone() {
        SubLedger ledger = Check.taught("account yen asset foreign;account own equity;post p{debit yen x;rest own;}");
        ledger.post(0, 0, 100, 0, 0);
        ledger.setRate(0, 150);
        Check.due("without an income account", 0, () -> ledger.close(0));
        Check.due("entries", 1, () -> ledger.count(2));
        SubLedger plain = Check.taught("account cash asset;account in income;post p{debit cash x;rest in;}");
        plain.post(0, 0, 100, 0, 0);
        plain.setRate(0, 150);
        Check.due("without a foreign account", 0, () -> plain.close(0));
        SubLedger later = Check.taught(TEXT);
        later.post(0, 1, 100, 0, 0);
        later.setRate(0, 150);
        Check.due("with lines of later periods alone", 0, () -> later.close(0));
    }

    private static void result() {
        for (int year = 3; year <= 11; year += 4) {
            SubLedger ledger = Check.taught(TEXT);
            ledger.post(1, year - 3, 30, 100, 0);
            ledger.post(0, year, 7, 0, 0);
            ledger.post(1, Math.min(11, year + 1), year == 11 ? 0 : 1000, year == 11 ? 1 : 0, 0);
            for (int p = 0; p < year; p++) {
                int period = p;
                Check.due("close(" + p + ") without a result", 0, () -> ledger.close(period));
            }
            int last = year;
            Check.due("close(" + year + ")", 4, () -> ledger.close(last));
            int fees = year == 11 ? 101 : 100;
            lines(ledger, 3, SALES, 7, FEES, fees, RENT, -30, OWN, -7 - fees + 30);
            Check.due("kind", 3, () -> ledger.entry(3, 1));
            Check.due("source", -1, () -> ledger.entry(3, 2));
            Check.due("period", last, () -> ledger.entry(3, 0));
            for (int kind = 3; kind <= 4; kind++) {
                int asked = kind;
                Check.due("trial behind it", 0, () -> ledger.trial(asked, last));
            }
        }
    }

    private static void resultBehindRevaluation() {
        SubLedger ledger = Check.taught(TEXT);
        ledger.post(0, 0, 100, 0, 0);
        for (int p = 0; p < 3; p++) {
            ledger.close(p);
        }
        ledger.setRate(3, 150);
        Check.due("both", 4, () -> ledger.close(3));
        lines(ledger, 1, YEN, 50, SALES, -50);
        lines(ledger, 2, SALES, 150, OWN, -150);
        Check.due("reopen of both", 4, () -> ledger.reopen(3));
        Check.due("void ones", 2, () -> ledger.count(3));
        ledger.setRate(3, 1);
        Check.due("both again", 4, () -> ledger.close(3));
        lines(ledger, 3, YEN, -99, SALES, 99);
        lines(ledger, 4, SALES, 1, OWN, -1);
        SubLedger zero = Check.taught(TEXT);
        zero.post(0, 3, 100, 0, 0);
        zero.post(1, 3, 0, -100, 0);
        for (int p = 0; p < 3; p++) {
            zero.close(p);
        }
        zero.setRate(3, 50);
        Check.due("a revaluation, then a result", 5, () -> zero.close(3));
        lines(zero, 3, SALES, 50, FEES, -100, OWN, 50);
    }

    private static void resultNone() {
        SubLedger ledger = Check.taught("account cash asset;account in income;post p{debit cash x;rest in;}");
        ledger.post(0, 0, 5, 0, 0);
        for (int p = 0; p < 12; p++) {
            int period = p;
            Check.due("without an equity account", 0, () -> ledger.close(period));
        }
        SubLedger even = Check.taught(TEXT);
        even.post(1, 0, 50, 50, 0);
        for (int p = 0; p < 3; p++) {
            even.close(p);
        }
        Check.due("no last line", 2, () -> even.close(3));
        lines(even, 1, FEES, 50, RENT, -50);
        for (int p = 4; p < 7; p++) {
            even.close(p);
        }
        Check.due("no result without lines", 0, () -> even.close(7));
        Check.due("entries", 2, () -> even.count(2));
    }

    /** A ledger with so many entries of two lines; the periods 0 to 2 are closed, and closing 3 makes two entries. */
    private static SubLedger full(int entries) {
        SubLedger ledger = Check.taught(TEXT);
        for (int n = 0; n < entries; n++) {
            ledger.post(0, 3, 10, 0, 0);
        }
        for (int p = 0; p < 3; p++) {
            ledger.close(p);
        }
        ledger.setRate(3, 150);
        return ledger;
    }

    private static void limitOfEntries() {
        SubLedger fits = full(58);
        Check.due("two entries more", 4, () -> fits.close(3));
        Check.due("entries", 60, () -> fits.count(2));
        fits.setRate(4, 150);
        Check.due("a closing that makes no entry", 0, () -> fits.close(4));
        SubLedger tight = full(59);
        long before = tight.digest();
        Check.badState("two entries too many", () -> tight.close(3));
        Check.due("nothing is changed", before, tight::digest);
        tight.setRate(3, 100);
        Check.due("one entry", 2, () -> tight.close(3));
        SubLedger none = full(60);
        Check.badState("no entry more", () -> none.close(3));
        none.setRate(3, 100);
        Check.badState("no entry more", () -> none.close(3));
    }

    private static void limitOfLines() {
        String text = "account yen asset foreign;account in income;account own equity;account c asset;"
                + "post p{" + "debit c 1;".repeat(7) + "rest yen;}post q{debit c x;debit c y;rest in;}"
                + "post r{debit yen x;rest in;}";
        for (int more = 0; more < 2; more++) {
            SubLedger ledger = Check.taught(text);
            for (int n = 0; n < 36; n++) {
                ledger.post(0, 0, 0, 0, 0);
            }
            ledger.post(2, 0, 1000, 0, 0);
            ledger.post(1, 0, 1, 1, 0);
            ledger.post(1, 0, 1, 1, 0);
            ledger.setRate(0, 50);
            if (more == 1) {
                ledger.post(1, 0, 1, 0, 0);
            }
            Check.due("lines ahead", more == 0 ? 296 : 298, () -> ledger.count(4));
            Check.due("close(0)", 2, () -> ledger.close(0));
            ledger.setRate(1, 50);
            ledger.close(1);
            ledger.setRate(2, 50);
            ledger.close(2);
            ledger.setRate(3, 50);
            if (more == 0) {
                Check.due("to 300", 2, () -> ledger.close(3));
                Check.due("lines", 300, () -> ledger.count(4));
            } else {
                Check.badState("beyond 300", () -> ledger.close(3));
                Check.due("closed ones", 3, () -> ledger.count(6));
                Check.due("lines", 300, () -> ledger.count(4));
            }
        }
    }

    private static void reopen() {
        SubLedger ledger = Check.taught(TEXT);
        ledger.post(0, 0, 100, 40, 0);
        ledger.setRate(0, 150);
        ledger.close(0);
        ledger.setRate(1, 200);
        ledger.close(1);
        Check.badState("reopen(0) ahead of 1", () -> ledger.reopen(0));
        Check.due("reopen(1)", 3, () -> ledger.reopen(1));
        Check.due("void", 1, () -> ledger.entry(2, 5));
        Check.due("not void", 0, () -> ledger.entry(1, 5));
        Check.due("lines stay", 9, () -> ledger.count(4));
        Check.due("balance", 150, () -> ledger.balance(YEN, 1, false));
        Check.due("rate stays", 200, () -> ledger.period(1, 0));
        Check.due("rate can be set", 200, () -> ledger.setRate(1, 60));
        Check.due("posting can be made", 3, () -> ledger.post(0, 1, 1, 0, 0));
        Check.due("close(1) again", 3, () -> ledger.close(1));
        lines(ledger, 4, YEN, 60 - 150, LOAN, -24 + 60, SALES, 54);
        Check.due("reopen(1) again: the new ones alone", 3, () -> ledger.reopen(1));
        Check.due("reopen(0)", 3, () -> ledger.reopen(0));
        Check.due("void ones", 3, () -> ledger.count(3));
        Check.due("balance without any", 100, () -> ledger.balance(YEN, 0, false));
        Check.due("reopen without lines", 0, () -> {
            SubLedger empty = new SubLedger();
            empty.close(0);
            return empty.reopen(0);
        });
    }

    private static void told(SubLedger ledger, int period, int... want) {
        for (int what = 0; what < 4; what++) {
            int asked = what;
            Check.due("period(" + period + ", " + what + ")", want[what], () -> ledger.period(period, asked));
        }
    }

    private static void period() {
        SubLedger ledger = Check.taught(TEXT);
        ledger.post(0, 0, 100, 0, 0);
        ledger.post(0, 11, 100, 0, 0);
        ledger.post(0, 0, 1, 0, 0);
        ledger.setRate(0, 150);
        told(ledger, 0, 150, 0, 2, 0);
        ledger.close(0);
        told(ledger, 0, 150, 1, 3, 1);
        told(ledger, 1, 100, 0, 0, 0);
        ledger.reopen(0);
        told(ledger, 0, 150, 0, 2, 1);
        ledger.close(0);
        ledger.reopen(0);
        told(ledger, 0, 150, 0, 2, 2);
        told(ledger, 11, 100, 0, 1, 0);
        Check.outOfBounds("period(-1, 0)", () -> ledger.period(-1, 0));
        Check.outOfBounds("period(12, 0)", () -> ledger.period(12, 0));
        Check.outOfBounds("period(0, -1)", () -> ledger.period(0, -1));
        Check.outOfBounds("period(0, 4)", () -> ledger.period(0, 4));
    }

    private static void restated() {
        SubLedger ledger = Check.taught(TEXT);
        ledger.post(0, 0, 100, 0, 0);
        ledger.setRate(0, 150);
        Check.due("never closed", 0, () -> ledger.restated(YEN, 0));
        ledger.close(0);
        Check.due("just closed", 0, () -> ledger.restated(YEN, 0));
        ledger.close(1);
        Check.due("later one, just closed", 0, () -> ledger.restated(YEN, 1));
        ledger.reopen(1);
        ledger.reopen(0);
        Check.due("revaluation void", -50, () -> ledger.restated(YEN, 0));
        Check.due("revaluation void, of income", 50, () -> ledger.restated(SALES, 0));
        Check.due("later one, with its own revaluation void", 0, () -> ledger.restated(YEN, 1));
        ledger.post(0, 0, 10, 0, 0);
        Check.due("posted since", -35, () -> ledger.restated(YEN, 0));
        Check.due("later one, posted since", 15, () -> ledger.restated(YEN, 1));
        ledger.setRate(0, 100);
        ledger.close(0);
        Check.due("closed again: the first closing's counts", -40, () -> ledger.restated(YEN, 0));
        Check.due("never closed", 0, () -> ledger.restated(YEN, 2));
        Check.due("another account", 0, () -> ledger.restated(LOAN, 0));
        Check.outOfBounds("restated(-1, 0)", () -> ledger.restated(-1, 0));
        Check.outOfBounds("restated(7, 0)", () -> ledger.restated(7, 0));
        Check.outOfBounds("restated(0, -1)", () -> ledger.restated(0, -1));
        Check.outOfBounds("restated(0, 12)", () -> ledger.restated(0, 12));
        SubLedger early = Check.taught("account a asset;");
        early.close(0);
        early.reopen(0);
        Check.teach(early, TEXT);
        early.post(0, 0, 9, 0, 0);
        Check.due("told behind the first closing", 9, () -> early.restated(YEN, 0));
    }
}
