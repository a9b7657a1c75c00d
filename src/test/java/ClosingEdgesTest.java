/** The boundary cases that "4. Closing" and promises 20 to 23 name, one sentence after the other. */
public final class ClosingEdgesTest {
    private static final String TEXT = "account yen asset foreign;account sales income;account rent cost;account own equity;"
            + "post p{debit yen x;rest sales;}post q{debit rent x;credit sales y;rest own;}";
    private static final int YEN = 0;
    private static final int SALES = 1;
    private static final int RENT = 2;
    private static final int OWN = 3;
    private static final int MIN = Integer.MIN_VALUE;
    private static final int MAX = Integer.MAX_VALUE;

    public static void main(String[] args) {
        oneBehindTheOther();
        lastOneOpens();
        mostLines();
        revaluationCut();
        revaluationUpToThePeriod();
        revaluationLeftOut();
        firstOfTheKind();
        resultPeriods();
        resultLeftOut();
        bothEntries();
        roomForEntries();
        roomForLines();
        voidAgain();
        keptOnce();
        keptInEachPeriod();
        periodsTold();
        numbersTold();
        Check.end("ClosingEdgesTest");
    }

    private static SubLedger closedUpTo(SubLedger ledger, int last) {
        for (int p = ledger.count(6); p <= last; p++) {
            ledger.close(p);
        }
        return ledger;
    }

    /** Account and amount of each line of an entry that a closing made. */
    private static void lines(SubLedger ledger, int entry, int... want) {
        Check.due("lines of entry " + entry, want.length / 2, () -> ledger.entry(entry, 4));
        for (int i = 0; i < want.length; i++) {
            int line = ledger.entry(entry, 3) + i / 2;
            int what = i % 2 + 1;
            Check.due("entry " + entry + ", line " + i / 2 + ", " + what, want[i], () -> ledger.line(line, what));
            Check.due("foreign amount of " + line, 0, () -> ledger.line(line, 3));
        }
    }

    /** "it is not the first one that is open": each period at each number of closed ones. */
    private static void oneBehindTheOther() {
        for (int closed = 0; closed <= 12; closed++) {
            for (int p = 0; p < 12; p++) {
                SubLedger ledger = closedUpTo(new SubLedger(), closed - 1);
                int period = p;
                String call = "close(" + p + ") when " + closed + " are closed";
                if (p == closed) {
                    Check.due(call, 0, () -> ledger.close(period));
                } else {
                    Check.badState(call, () -> ledger.close(period));
                }
                Check.due("closed behind " + call, p == closed ? closed + 1 : closed, () -> ledger.count(6));
            }
        }
    }

    /** "it is not the last one that is closed". */
    private static void lastOneOpens() {
        for (int closed = 0; closed <= 12; closed++) {
            for (int p = 0; p < 12; p++) {
                SubLedger ledger = closedUpTo(new SubLedger(), closed - 1);
                int period = p;
                String call = "reopen(" + p + ") when " + closed + " are closed";
                if (p == closed - 1) {
                    Check.due(call, 0, () -> ledger.reopen(period));
                } else {
                    Check.badState(call, () -> ledger.reopen(period));
                }
                Check.due("closed behind " + call, p == closed - 1 ? closed - 1 : closed, () -> ledger.count(6));
            }
        }
    }

    /** A last account, then 15 of these; the templates debit each with x, and the first account balances. */
    private static SubLedger ofSixteen(String first, String even, String odd) {
        StringBuilder text = new StringBuilder("account last " + first + ";");
        for (int i = 0; i < 15; i++) {
            text.append("account a").append(i).append(' ').append(i % 2 == 0 ? even : odd).append(';');
        }
        for (int i = 0; i < 15; i++) {
            text.append(i % 7 == 0 ? "post p" + i + "{" : "").append("debit a").append(i).append(" x*").append(i + 1).append(';');
            text.append(i % 7 == 6 || i == 14 ? "rest last;}" : "");
        }
        SubLedger ledger = Check.taught(text.toString());
        for (int template = 0; template < 3; template++) {
            ledger.post(template, 0, 10, 0, 0);
        }
        return ledger;
    }

    /** The most lines of an entry: one for each of 15 accounts, and a last one on the 16th. */
    private static void mostLines() {
        int[] want = new int[32];
        for (int i = 0; i < 15; i++) {
            want[2 * i] = i + 1;
            want[2 * i + 1] = 10 * (i + 1);
        }
        want[31] = -1200;
        SubLedger revalued = ofSixteen("income", "asset foreign", "debt items foreign");
        revalued.setRate(0, 200);
        Check.due("a revaluation of 16 lines", 16, () -> revalued.close(0));
        lines(revalued, 3, want);
        for (int i = 1; i < 32; i += 2) {
            want[i] = -want[i];
        }
        SubLedger result = closedUpTo(ofSixteen("equity", "income items", "cost"), 2);
        Check.due("a result of 16 lines", 16, () -> result.close(3));
        lines(result, 3, want);
        Check.due("nothing is left", 0, () -> result.trial(3, 3) + result.trial(4, 3) + result.trial(2, 3));
    }

    /** "its foreign balance up to the period * the rate of the period / 100, less its balance". */
    private static void revaluationCut() {
        int[][] cases = {{-3, 50, 2}, {3, 50, -2}, {1, 1, -1}, {-1, 1, 1}, {-199, 1, 198}, {7, 199, 6}, {-7, 199, -6}, {1, 200, 1}};
        for (int[] one : cases) {
            SubLedger ledger = Check.taught(TEXT);
            ledger.post(0, 0, one[0], 0, 0);
            ledger.setRate(0, one[1]);
            Check.due("close", 2, () -> ledger.close(0));
            lines(ledger, 1, YEN, one[2], SALES, -one[2]);
            Check.due("the foreign balance stays", one[0], () -> ledger.balance(YEN, 0, true));
            ledger.setRate(1, one[1]);
            Check.due("nothing more at the same rate", 0, () -> ledger.close(1));
        }
    }

    /** "up to the period": neither lines nor rates of later periods count, those of earlier ones do. */
    private static void revaluationUpToThePeriod() {
        SubLedger ledger = Check.taught(TEXT);
        ledger.post(0, 1, 100, 0, 0);
        ledger.post(0, 2, 1000, 0, 0);
        ledger.setRate(0, 200);
        ledger.setRate(2, 50);
        Check.due("ahead of any line", 0, () -> ledger.close(0));
        Check.due("at 100 still", 0, () -> ledger.close(1));
        Check.due("both lines at 50", 2, () -> ledger.close(2));
        lines(ledger, 2, YEN, -550, SALES, 550);
        Check.due("back at 100", 4, () -> ledger.close(3));
        lines(ledger, 3, YEN, 550, SALES, -550);
        lines(ledger, 4, SALES, 1100, OWN, -1100);
    }

    /** "is a line of it, if it is not 0", "if there is an income account", "no such entry without lines". */
    private static void revaluationLeftOut() {
        SubLedger ledger = Check.taught("account a asset foreign;account b debt foreign;account c asset;account d equity foreign;"
                + "account i income;post p{debit a x;debit b y;debit c z;rest i;}post q{debit d x;rest i;}");
        ledger.post(0, 0, 100, -100, 7);
        ledger.setRate(0, 150);
        Check.due("two that cancel out", 2, () -> ledger.close(0));
        lines(ledger, 1, 0, 50, 1, -50);
        ledger.setRate(1, 150);
        Check.due("none", 0, () -> ledger.close(1));
        ledger.post(1, 2, 10, 0, 0);
        ledger.setRate(2, 151);
        Check.due("all three and the income", 4, () -> ledger.close(2));
        lines(ledger, 3, 0, 1, 1, -1, 3, 5, 4, -5);
        SubLedger without = Check.taught("account a asset foreign;account e equity;account c cost;post p{debit a x;rest e;}");
        without.post(0, 0, 100, 0, 0);
        without.setRate(0, 150);
        Check.due("without an income account", 0, () -> without.close(0));
        Check.due("its balance stays", 100, () -> without.balance(0, 0, false));
    }

    /** "on the first income account", "on the first equity account". */
    private static void firstOfTheKind() {
        SubLedger ledger = Check.taught("account c cost;account e1 equity;account e2 equity;account i1 income;account i2 income;"
                + "account yen asset foreign;post p{debit yen x;rest i2;}");
        ledger.post(0, 3, 10, 0, 0);
        closedUpTo(ledger, 2);
        ledger.setRate(3, 200);
        Check.due("both", 5, () -> ledger.close(3));
        lines(ledger, 1, 5, 10, 3, -10);
        lines(ledger, 2, 3, 10, 4, 10, 1, -20);
    }

    /** "if the period is 3, 7 or 11". */
    private static void resultPeriods() {
        SubLedger ledger = Check.taught(TEXT);
        for (int p = 0; p < 12; p++) {
            ledger.post(1, p, 0, 1 << p, 0);
        }
        int[] sums = {15, 240, 3840};
        for (int p = 0; p < 12; p++) {
            int period = p;
            boolean isLast = p == 3 || p == 7 || p == 11;
            Check.due("close(" + p + ")", isLast ? 2 : 0, () -> ledger.close(period));
            if (isLast) {
                lines(ledger, 12 + p / 4, SALES, sums[p / 4], OWN, -sums[p / 4]);
                Check.due("nothing left", 0, () -> ledger.balance(SALES, period, false));
            }
        }
    }

    /** "and there is an equity account", "if it is not 0", "no such entry without lines". */
    private static void resultLeftOut() {
        SubLedger even = Check.taught(TEXT);
        even.post(1, 3, 5, 5, 0);
        closedUpTo(even, 2);
        Check.due("no last line", 2, () -> even.close(3));
        lines(even, 1, SALES, 5, RENT, -5);
        SubLedger cost = Check.taught(TEXT);
        cost.post(1, 3, 5, 0, 0);
        closedUpTo(cost, 2);
        Check.due("cost alone", 2, () -> cost.close(3));
        lines(cost, 1, RENT, -5, OWN, 5);
        SubLedger alone = Check.taught("account a asset;account c cost;account e equity;post p{debit c x;rest a;}");
        alone.post(0, 1, 5, 0, 0);
        closedUpTo(alone, 2);
        Check.due("cost without any income account", 2, () -> alone.close(3));
        lines(alone, 1, 1, -5, 2, 5);
        SubLedger income = Check.taught("account a asset;account e equity;account i income;post p{debit a x;rest i;}");
        income.post(0, 2, 5, 0, 0);
        closedUpTo(income, 2);
        Check.due("income without any cost account", 2, () -> income.close(3));
        lines(income, 1, 2, 5, 1, -5);
        SubLedger ends = Check.taught("account c cost;account e equity;account i income;post p{debit c x;credit i y;rest e;}");
        ends.post(0, 3, 5, 8, 0);
        closedUpTo(ends, 2);
        Check.due("the first account and the last one", 3, () -> ends.close(3));
        lines(ends, 1, 0, -5, 2, 8, 1, -3);
        SubLedger none = Check.taught(TEXT);
        none.post(1, 4, 5, 0, 0);
        closedUpTo(none, 2);
        Check.due("none of this period", 0, () -> none.close(3));
        SubLedger without = Check.taught("account a asset;account i income;account c cost;post p{debit a x;rest i;}");
        without.post(0, 0, 5, 0, 0);
        for (int p = 0; p < 12; p++) {
            int period = p;
            Check.due("without an equity account", 0, () -> without.close(period));
        }
    }

    /** "at most two entries of its period ... in this order". */
    private static void bothEntries() {
        SubLedger ledger = Check.taught(TEXT);
        ledger.post(0, 3, 10, 0, 0);
        closedUpTo(ledger, 2);
        ledger.setRate(3, 150);
        Check.due("both", 4, () -> ledger.close(3));
        int[][] want = {{3, 2, -1, 2, 2, 0, -1}, {3, 3, -1, 4, 2, 0, -1}};
        for (int e = 1; e <= 2; e++) {
            for (int what = 0; what < 7; what++) {
                int entry = e;
                int asked = what;
                Check.due("entry(" + e + ", " + what + ")", want[e - 1][what], () -> ledger.entry(entry, asked));
            }
        }
        lines(ledger, 1, YEN, 5, SALES, -5);
        lines(ledger, 2, SALES, 15, OWN, -15);
        SubLedger back = Check.taught(TEXT);
        back.post(0, 3, 10, 0, 0);
        back.post(1, 3, 0, -10, 0);
        closedUpTo(back, 2);
        back.setRate(3, 150);
        Check.due("a result of what the revaluation made alone", 4, () -> back.close(3));
        lines(back, 3, SALES, 5, OWN, -5);
    }

    private static final String FILLED = TEXT + "post two{debit own 1;credit own 1;}post three{debit own 1;debit own 1;credit own 2;}"
            + "post eight{" + "debit own 1;".repeat(7) + "credit own 7;}";

    /** A ledger of so many entries and lines, of which closing 3 makes none (0), a result (1) or both (2). */
    private static SubLedger filled(int entries, int lines, int makes) {
        SubLedger ledger = Check.taught(FILLED);
        if (makes > 0) {
            ledger.post(0, 3, 10, 0, 0);
        }
        while (ledger.count(2) < entries || ledger.count(4) < lines) {
            int left = lines - ledger.count(4);
            int template = lines == 0 || left == 2 || left == 4 ? 2 : left == 3 || left < 8 || left == 9 ? 3 : 4;
            ledger.post(template, 5, 0, 0, 0);
        }
        closedUpTo(ledger, 2);
        ledger.setRate(3, makes == 2 ? 150 : 100);
        return ledger;
    }

    /** "or there would be too many entries". */
    private static void roomForEntries() {
        for (int entries = 57; entries <= 60; entries++) {
            for (int makes = 0; makes <= 2; makes++) {
                SubLedger ledger = filled(entries, 0, makes);
                String call = "close with " + entries + " entries, making " + makes;
                closes(ledger, call, entries + makes <= 60, makes);
                Check.due("entries behind " + call, entries + makes <= 60 ? entries + makes : entries, () -> ledger.count(2));
            }
        }
    }

    /** "or lines". */
    private static void roomForLines() {
        for (int lines = 294; lines <= 300; lines++) {
            for (int makes = 0; makes <= 2; makes++) {
                SubLedger ledger = filled(0, lines, makes);
                String call = "close with " + lines + " lines, making " + makes;
                Check.due("lines ahead of " + call, lines, () -> ledger.count(4));
                boolean fits = lines + 2 * makes <= 300;
                closes(ledger, call, fits, makes);
                Check.due("lines behind " + call, fits ? lines + 2 * makes : lines, () -> ledger.count(4));
            }
        }
    }

    private static void closes(SubLedger ledger, String call, boolean fits, int makes) {
        if (fits) {
            Check.due(call, 2 * makes, () -> ledger.close(3));
        } else {
            Check.badState(call, () -> ledger.close(3));
        }
        Check.due("closed behind " + call, fits ? 1 : 0, () -> ledger.period(3, 1));
        Check.due("how often behind " + call, fits ? 1 : 0, () -> ledger.period(3, 3));
        Check.due("kept behind " + call, 0, () -> ledger.restated(YEN, 3));
    }

    /** "the entries that its closing made are void then": they alone, and each once. */
    private static void voidAgain() {
        SubLedger ledger = Check.taught(TEXT);
        ledger.post(0, 0, 10, 0, 0);
        ledger.setRate(0, 200);
        ledger.setRate(1, 50);
        ledger.close(0);
        ledger.close(1);
        Check.due("lines of period 1", 2, () -> ledger.reopen(1));
        Check.due("period 0 has its own", 0, () -> ledger.entry(1, 5));
        Check.due("close(1) again", 2, () -> ledger.close(1));
        Check.due("the new ones alone", 2, () -> ledger.reopen(1));
        Check.due("void ones", 2, () -> ledger.count(3));
        ledger.setRate(1, 200);
        Check.due("close(1) without lines", 0, () -> ledger.close(1));
        Check.due("reopen(1) without lines", 0, () -> ledger.reopen(1));
        Check.due("lines of period 0", 2, () -> ledger.reopen(0));
        for (int e = 0; e < 4; e++) {
            int entry = e;
            Check.due("void " + e, e == 0 ? 0 : 1, () -> ledger.entry(entry, 5));
        }
        Check.due("what is posted counts", 10, () -> ledger.balance(YEN, 11, false));
    }

    /** "A period that is closed for the first time keeps the balance", with what this closing made. */
    private static void keptOnce() {
        SubLedger ledger = Check.taught(TEXT);
        ledger.post(0, 0, 10, 0, 0);
        ledger.setRate(0, 200);
        Check.due("never closed", 0, () -> ledger.restated(YEN, 0));
        ledger.close(0);
        Check.due("closed: 20 of 20", 0, () -> ledger.restated(YEN, 0));
        ledger.reopen(0);
        Check.due("opened: 10 of 20", -10, () -> ledger.restated(YEN, 0));
        ledger.post(0, 0, 5, 0, 0);
        Check.due("posted at 200: 20 of 20", 0, () -> ledger.restated(YEN, 0));
        ledger.close(0);
        Check.due("closed again: 30 of 20", 10, () -> ledger.restated(YEN, 0));
        Check.due("of income", -10, () -> ledger.restated(SALES, 0));
        ledger.reopen(0);
        ledger.post(0, 0, -15, 0, 0);
        ledger.close(0);
        Check.due("closed once more: 0 of 20", -20, () -> ledger.restated(YEN, 0));
        Check.due("later ones were never closed", 0, () -> ledger.restated(YEN, 1));
    }

    /** Each period keeps a balance of its own for each account. */
    private static void keptInEachPeriod() {
        SubLedger ledger = Check.taught(TEXT);
        for (int p = 0; p < 12; p++) {
            ledger.post(1, p, 1 << p, 0, 0);
            ledger.close(p);
        }
        for (int p = 11; p >= 0; p--) {
            ledger.reopen(p);
        }
        ledger.post(1, 2, 5000, 0, 0);
        for (int p = 0; p < 12; p++) {
            int period = p;
            int since = p >= 2 ? 5000 : 0;
            int ofResult = p < 3 ? 0 : p < 7 ? 15 : p < 11 ? 255 : 4095;
            Check.due("cost of " + p, since + ofResult, () -> ledger.restated(RENT, period));
            Check.due("equity of " + p, -since - ofResult, () -> ledger.restated(OWN, period));
            Check.due("another of " + p, 0, () -> ledger.restated(YEN, period));
        }
    }

    /** "entries of it that are not void", "how often it was closed". */
    private static void periodsTold() {
        SubLedger ledger = Check.taught(TEXT);
        ledger.post(0, 0, 10, 0, 0);
        ledger.post(0, 1, 10, 0, 0);
        ledger.setRate(0, 200);
        for (int n = 1; n <= 20; n++) {
            int times = n;
            ledger.close(0);
            Check.due("entries when closed", 2, () -> ledger.period(0, 2));
            Check.due("closed", 1, () -> ledger.period(0, 1));
            Check.due("how often", times, () -> ledger.period(0, 3));
            ledger.reopen(0);
            Check.due("entries when open", 1, () -> ledger.period(0, 2));
            Check.due("open", 0, () -> ledger.period(0, 1));
            Check.due("how often still", times, () -> ledger.period(0, 3));
        }
        Check.due("the reversal is of its period", 22, () -> ledger.reverse(0, 1));
        Check.due("entries of 1", 2, () -> ledger.period(1, 2));
        Check.due("entries of 0", 1, () -> ledger.period(0, 2));
        Check.due("1 never was", 0, () -> ledger.period(1, 3));
        entriesOfEachKind();
    }

    /** "entries of it that are not void": those that are posted, reversals, revaluations and results. */
    private static void entriesOfEachKind() {
        SubLedger ledger = Check.taught(TEXT);
        ledger.post(0, 3, 10, 0, 0);
        ledger.post(1, 3, 7, 0, 0);
        ledger.reverse(1, 3);
        closedUpTo(ledger, 2);
        ledger.setRate(3, 150);
        Check.due("both are made", 4, () -> ledger.close(3));
        Check.due("all of it", 5, () -> ledger.period(3, 2));
        Check.due("none of another", 0, () -> ledger.period(7, 2));
        ledger.reopen(3);
        Check.due("without the void ones", 3, () -> ledger.period(3, 2));
        ledger.setRate(3, 100);
        Check.due("a result alone", 2, () -> ledger.close(3));
        Check.due("and its entry", 4, () -> ledger.period(3, 2));
    }

    /** "if period is not 0 to 11", "or what is not 0 to 3", "if there is no such account". */
    private static void numbersTold() {
        SubLedger ledger = Check.taught(TEXT);
        for (int closed = 0; closed <= 12; closed += 12) {
            closedUpTo(ledger, closed - 1);
            for (int wrong : new int[] {-1, 12, MIN, MAX}) {
                Check.outOfBounds("close(" + wrong + ")", () -> ledger.close(wrong));
                Check.outOfBounds("reopen(" + wrong + ")", () -> ledger.reopen(wrong));
                Check.outOfBounds("period(" + wrong + ", 0)", () -> ledger.period(wrong, 0));
                Check.outOfBounds("restated(0, " + wrong + ")", () -> ledger.restated(0, wrong));
            }
            for (int wrong : new int[] {-1, 4, MIN, MAX}) {
                Check.outOfBounds("period(0, " + wrong + ")", () -> ledger.period(0, wrong));
                Check.outOfBounds("restated(" + wrong + ", 0)", () -> ledger.restated(wrong, 0));
            }
        }
        Check.due("period(11, 3)", 1, () -> ledger.period(11, 3));
        Check.due("restated(3, 11)", 0, () -> ledger.restated(3, 11));
        Check.outOfBounds("restated without accounts", () -> new SubLedger().restated(0, 0));
    }
}
