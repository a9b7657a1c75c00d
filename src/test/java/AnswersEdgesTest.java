/** The boundary cases that promises 24 to 29 name, one sentence after the other. */
public final class AnswersEdgesTest {
    private static final String TEXT = "account cash asset items;account yen asset items foreign;account own equity;"
            + "account in income;post p{debit cash x;debit yen y;credit cash z;rest in;}";
    private static final int CASH = 0;
    private static final int YEN = 1;
    private static final int OWN = 2;
    private static final int IN = 3;
    private static final int MIN = Integer.MIN_VALUE;
    private static final int MAX = Integer.MAX_VALUE;

    public static void main(String[] args) {
        wouldAsPosted();
        wouldWithoutIt();
        wouldAtTheLimits();
        wouldWrong();
        solveEnds();
        solveNearest();
        solveGaps();
        solveNone();
        solveWrong();
        statements();
        longestLines();
        longestPaper();
        emptyPaper();
        paperBytes();
        clearedParts();
        digestParts();
        Check.end("AnswersEdgesTest");
    }

    /** "what its balance up to the period would be behind this posting": what it is, once it is posted. */
    private static void wouldAsPosted() {
        SubLedger ledger = Check.taught(TEXT);
        ledger.setRate(4, 33);
        ledger.post(0, 3, 10, 20, 3);
        ledger.post(0, 6, 1000, 2000, 300);
        long before = ledger.digest();
        int[] would = new int[4];
        for (int a = 0; a < 4; a++) {
            would[a] = ledger.would(0, 4, 7, -8, 9, a);
        }
        Check.due("nothing is changed", before, ledger::digest);
        ledger.post(0, 4, 7, -8, 9);
        for (int a = 0; a < 4; a++) {
            int account = a;
            Check.due("balance of " + a, would[a], () -> ledger.balance(account, 4, false));
        }
        Check.due("cash", 7 + 7 - 9, () -> would[CASH]);
        Check.due("yen", 20 - 2, () -> would[YEN]);
        Check.due("own", 0, () -> would[OWN]);
        Check.due("income", -27 + 4, () -> would[IN]);
    }

    /** "without it, if it cannot be posted": for each reason there is. */
    private static void wouldWithoutIt() {
        SubLedger ledger = Check.taught(TEXT + "post q{debit cash x;credit own y;}post r{debit cash x*10+y;credit own x*10+y;}"
                + "post s{debit cash x*10;rest yen;}");
        ledger.post(0, 1, 50, 0, 0);
        Check.due("it balances", 57, () -> ledger.would(1, 1, 7, 7, 0, CASH));
        Check.due("it does not balance", 50, () -> ledger.would(1, 1, 7, 8, 0, CASH));
        Check.due("1000000", 1000050, () -> ledger.would(2, 1, 100000, 0, 0, CASH));
        Check.due("1000001", 50, () -> ledger.would(2, 1, 100000, 1, 0, CASH));
        Check.due("-1000000", -999950, () -> ledger.would(2, 1, -100000, 0, 0, CASH));
        Check.due("-1000001", 50, () -> ledger.would(2, 1, -100000, -1, 0, CASH));
        ledger.setRate(1, 1);
        Check.due("a foreign amount of 1000000", 10050, () -> ledger.would(3, 1, 1000, 0, 0, CASH));
        Check.due("a foreign amount of 1001000", 50, () -> ledger.would(3, 1, 1001, 0, 0, CASH));
        Check.due("no line", 50, () -> ledger.would(0, 1, 0, 0, 0, CASH));
        ledger.close(0);
        Check.due("closed", 0, () -> ledger.would(0, 0, 7, 0, 0, CASH));
        Check.due("closed, of income", -50, () -> ledger.would(0, 1, 0, 0, 0, IN));
        ledger.close(1);
        Check.due("closed, with a balance", 50, () -> ledger.would(0, 1, 7, 0, 0, CASH));
        ledger.reopen(1);
        Check.due("open again", 57, () -> ledger.would(0, 1, 7, 0, 0, CASH));
    }

    /** "or there would be too many entries or lines". */
    private static void wouldAtTheLimits() {
        SubLedger entries = Check.taught(TEXT);
        for (int n = 0; n < 59; n++) {
            entries.post(0, 0, 1, 0, 0);
        }
        Check.due("the 60th entry", 64, () -> entries.would(0, 0, 5, 0, 0, CASH));
        Check.due("solve of the 60th", 5, () -> entries.solve(0, 0, CASH, 64));
        entries.post(0, 0, 1, 0, 0);
        Check.due("the 61st entry", 60, () -> entries.would(0, 0, 5, 0, 0, CASH));
        Check.due("solve of the 61st", -1, () -> entries.solve(0, 0, CASH, 64));
        SubLedger lines = Check.taught(TEXT + "post q{" + "debit cash 1;".repeat(7) + "rest in;}");
        for (int n = 0; n < 37; n++) {
            int cash = 7 * (n + 1);
            Check.due("8 lines of a new one", cash, () -> lines.would(1, 0, 0, 0, 0, CASH));
            Check.due("solve with 8 lines", 0, () -> lines.solve(1, 0, CASH, 0));
            lines.post(1, 0, 0, 0, 0);
        }
        Check.due("296 lines", 296, () -> lines.count(4));
        Check.due("8 lines more", 259, () -> lines.would(1, 0, 0, 0, 0, CASH));
        Check.due("solve of 8 lines more", -1, () -> lines.solve(1, 0, CASH, 0));
        Check.due("4 lines more", 261, () -> lines.would(0, 0, 4, 1, 2, CASH));
        lines.post(0, 0, 1, 0, 0);
        Check.due("3 lines more than 298", 260, () -> lines.would(0, 0, 4, 1, 0, CASH));
        Check.due("2 lines more than 298", 264, () -> lines.would(0, 0, 4, 0, 0, CASH));
        lines.post(0, 0, 1, 0, 0);
        Check.due("2 lines more than 300", 261, () -> lines.would(0, 0, 4, 0, 0, CASH));
    }

    /** "if there is no such template or account, or period is not 0 to 11", "x, y or z is not -100000 to 100000". */
    private static void wouldWrong() {
        SubLedger ledger = Check.taught(TEXT);
        for (int wrong : new int[] {-1, 12, MIN, MAX}) {
            Check.outOfBounds("template " + wrong, () -> ledger.would(wrong, 0, 0, 0, 0, 0));
            Check.outOfBounds("period " + wrong, () -> ledger.would(0, wrong, 0, 0, 0, 0));
            Check.outOfBounds("account " + wrong, () -> ledger.would(0, 0, 0, 0, 0, wrong));
        }
        Check.outOfBounds("template 1", () -> ledger.would(1, 0, 0, 0, 0, 0));
        Check.outOfBounds("account 4", () -> ledger.would(0, 0, 0, 0, 0, 4));
        for (int edge : new int[] {100000, -100000}) {
            Check.due("x " + edge, edge, () -> ledger.would(0, 0, edge, 0, 0, CASH));
            Check.due("y " + edge, edge, () -> ledger.would(0, 0, 0, edge, 0, YEN));
            Check.due("z " + edge, -edge, () -> ledger.would(0, 0, 0, 0, edge, CASH));
            for (int wrong : new int[] {edge > 0 ? edge + 1 : edge - 1, edge > 0 ? MAX : MIN}) {
                Check.badArgument("x " + wrong, () -> ledger.would(0, 0, wrong, 0, 0, 0));
                Check.badArgument("y " + wrong, () -> ledger.would(0, 0, 0, wrong, 0, 0));
                Check.badArgument("z " + wrong, () -> ledger.would(0, 0, 0, 0, wrong, 0));
            }
        }
    }

    /** "Looks for the x, 0 to 200": both ends are tried, and nothing beyond them. */
    private static void solveEnds() {
        SubLedger ledger = Check.taught(TEXT + "post q{debit cash 7 when x<1;rest in;}post r{debit cash 7 when x>=200;rest in;}"
                + "post s{debit cash 7 when x<0 or x>200;rest in;}post t{debit cash x+1;rest in;}");
        Check.due("0 alone", 0, () -> ledger.solve(1, 0, CASH, 0));
        Check.due("200 alone", 200, () -> ledger.solve(2, 0, CASH, 0));
        Check.due("beyond both ends alone", -1, () -> ledger.solve(3, 0, CASH, 7));
        Check.due("a goal at the first one", 0, () -> ledger.solve(4, 0, CASH, 1));
        Check.due("a goal below the first one", 0, () -> ledger.solve(4, 0, CASH, -1000000));
        Check.due("a goal just below the first one", 0, () -> ledger.solve(4, 0, CASH, 0));
        Check.due("a goal at the last one", 200, () -> ledger.solve(4, 0, CASH, 201));
        Check.due("a goal beyond the last one", 200, () -> ledger.solve(4, 0, CASH, 1000000));
        Check.due("a goal just ahead of the last one", 199, () -> ledger.solve(4, 0, CASH, 200));
        for (int x = 0; x <= 200; x++) {
            int goal = x + 1;
            Check.due("goal " + goal, x, () -> ledger.solve(4, 0, CASH, goal));
        }
    }

    /** "nearest to a goal; of several the least one", "with y and z of 0". */
    private static void solveNearest() {
        SubLedger ledger = Check.taught(TEXT + "post q{debit cash x*10;rest in;}post r{credit cash x*10;rest in;}"
                + "post s{debit cash x/50*10+1;rest in;}post t{debit cash x;debit cash y*1000;debit cash z*1000;rest own;}"
                + "post u{debit cash 5;rest in;}post v{debit own x+1;rest in;}");
        ledger.post(0, 2, 1000, 0, 0);
        Check.due("between two: the least", 2, () -> ledger.solve(1, 2, CASH, 1025));
        Check.due("nearer to the greater one", 3, () -> ledger.solve(1, 2, CASH, 1026));
        Check.due("nearer to the smaller one", 2, () -> ledger.solve(1, 2, CASH, 1024));
        Check.due("downwards: the least of two", 2, () -> ledger.solve(2, 2, CASH, 975));
        Check.due("downwards: the greater one", 3, () -> ledger.solve(2, 2, CASH, 974));
        Check.due("of fifty that bring the same the least", 100, () -> ledger.solve(3, 2, CASH, 1021));
        Check.due("of all that bring the same the least", 0, () -> ledger.solve(5, 2, CASH, 7));
        Check.due("of an account that it leaves alone", 0, () -> ledger.solve(6, 2, CASH, 7));
        Check.due("y and z are 0", 6, () -> ledger.solve(4, 2, CASH, 1006));
        Check.due("of the balance up to the period", 200, () -> ledger.solve(1, 1, CASH, 2000));
        Check.due("of the balance with the earlier ones", 100, () -> ledger.solve(1, 3, CASH, 2000));
        Check.due("a negative balance", 7, () -> ledger.solve(1, 2, IN, -1070));
        SubLedger big = Check.taught("account a asset;account i income;post p{debit a 100000*10;rest i;}"
                + "post q{debit a 0-x;rest i;}post r{credit a 100000*10;rest i;}");
        for (int n = 0; n < 29; n++) {
            big.post(0, 0, 0, 0, 0);
        }
        for (int n = 0; n < 30; n++) {
            big.post(2, 1, 0, 0, 0);
        }
        Check.due("far above the goal", 200, () -> big.solve(1, 0, 0, -1000000));
        Check.due("far below the goal", 1, () -> big.solve(1, 11, 0, 1000000));
    }

    /** "with which a posting can be made": those with which it cannot are passed over, wherever they stand. */
    private static void solveGaps() {
        SubLedger ledger = Check.taught(TEXT + "post q{debit cash x when x<50 or x>150;rest in;}"
                + "post r{debit cash x;credit own x when x/2*2=x;rest yen;}post s{debit cash x;credit own x when x/3*3=x;}");
        Check.due("a goal below the gap", 49, () -> ledger.solve(1, 0, CASH, 90));
        Check.due("the middle of the gap: the least of two", 49, () -> ledger.solve(1, 0, CASH, 100));
        Check.due("above the middle", 151, () -> ledger.solve(1, 0, CASH, 101));
        Check.due("behind the gap", 170, () -> ledger.solve(1, 0, CASH, 170));
        Check.due("no gap", 101, () -> ledger.solve(2, 0, CASH, 101));
        Check.due("each third one", 102, () -> ledger.solve(3, 0, CASH, 101));
        Check.due("each third one, below", 99, () -> ledger.solve(3, 0, CASH, 100));
        Check.due("0 makes no line", 3, () -> ledger.solve(3, 0, CASH, 0));
    }

    /** "-1 if it can be made with none". */
    private static void solveNone() {
        SubLedger ledger = Check.taught(TEXT + "post q{debit cash x+1;credit own x+2;}post r{debit cash 1000*1000+1+x;rest in;}"
                + "post s{debit cash 1000*1000-199+x;rest in;}post t{rest in;}");
        Check.due("it never balances", -1, () -> ledger.solve(1, 0, CASH, 5));
        Check.due("always too much", -1, () -> ledger.solve(2, 0, CASH, 5));
        Check.due("the greatest that is not too much", 199, () -> ledger.solve(3, 0, CASH, 1000000));
        Check.due("never a line", -1, () -> ledger.solve(4, 0, CASH, 0));
        ledger.close(0);
        Check.due("closed", -1, () -> ledger.solve(0, 0, CASH, 5));
        Check.due("the next one is open", 5, () -> ledger.solve(0, 1, CASH, 5));
        ledger.reopen(0);
        Check.due("open again", 5, () -> ledger.solve(0, 0, CASH, 5));
    }

    /** "if goal is not -1000000 to 1000000", and so on. */
    private static void solveWrong() {
        SubLedger ledger = Check.taught(TEXT);
        for (int wrong : new int[] {1000001, -1000001, MIN, MAX}) {
            Check.badArgument("goal " + wrong, () -> ledger.solve(0, 0, 0, wrong));
            Check.outOfBounds("template " + wrong, () -> ledger.solve(wrong, 0, 0, wrong));
            Check.outOfBounds("period " + wrong, () -> ledger.solve(0, wrong, 0, wrong));
            Check.outOfBounds("account " + wrong, () -> ledger.solve(0, 0, wrong, wrong));
        }
        Check.outOfBounds("template 1", () -> ledger.solve(1, 0, 0, 0));
        Check.outOfBounds("template -1", () -> ledger.solve(-1, 0, 0, 0));
        Check.outOfBounds("period 12", () -> ledger.solve(0, 12, 0, 0));
        Check.outOfBounds("period -1", () -> ledger.solve(0, -1, 0, 0));
        Check.outOfBounds("account 4", () -> ledger.solve(0, 0, 4, 0));
        Check.outOfBounds("account -1", () -> ledger.solve(0, 0, -1, 0));
        Check.due("goal 1000000", 200, () -> ledger.solve(0, 11, 0, 1000000));
        Check.due("goal -1000000", 200, () -> ledger.solve(0, 11, 3, -1000000));
    }

    private static void statement(SubLedger ledger, int account, String want) {
        Check.due("state(" + account + ")", want.length(), () -> ledger.state(account));
        Check.due("paper of " + account, want, () -> Check.paper(ledger));
        Check.due("count(8)", want.length(), () -> ledger.count(8));
    }

    /** "in their order, the period, a blank, a word, a blank, the amount", numbers of each length, and of both signs. */
    private static void statements() {
        SubLedger ledger = Check.taught("account a asset foreign;account i income;post p{debit a x*10+y;rest i;}");
        StringBuilder foreign = new StringBuilder();
        StringBuilder plain = new StringBuilder();
        for (int n = 0; n < 7; n++) {
            int amount = (int) Math.pow(10, n);
            for (int sign = 1; sign >= -1; sign -= 2) {
                ledger.post(0, n + 5, sign * (amount / 10), sign * (amount % 10), 0);
                foreign.append(n + 5).append(" p ").append(sign * amount).append(' ').append(sign * amount).append('\n');
                plain.append(n + 5).append(" p ").append(-sign * amount).append('\n');
            }
        }
        ledger.post(0, 0, 12345, 6, 0);
        ledger.post(0, 9, 99999, 9, 0);
        ledger.post(0, 10, -90909, -0, 0);
        foreign.append("0 p 123456 123456\n9 p 999999 999999\n10 p -909090 -909090\n");
        plain.append("0 p -123456\n9 p -999999\n10 p 909090\n");
        statement(ledger, 0, foreign.toString());
        statement(ledger, 1, plain.toString());
    }

    /** The longest word, the longest numbers, and lines without a foreign amount on a foreign account. */
    private static void longestLines() {
        SubLedger ledger = Check.taught("account a asset foreign;account i income;account e equity;"
                + "post abcdefghij{debit a x*10;rest i;}");
        for (int n = 0; n < 50; n++) {
            ledger.post(0, 11, 100000, 0, 0);
        }
        ledger.reverse(0, 11);
        for (int p = 0; p < 11; p++) {
            ledger.close(p);
        }
        ledger.setRate(11, 200);
        ledger.close(11);
        String posted = "11 abcdefghij 1000000 1000000\n".repeat(50) + "11 reversal -1000000 -1000000\n";
        statement(ledger, 0, posted + "11 revaluation 49000000 0\n");
        statement(ledger, 1, "11 abcdefghij -1000000\n".repeat(50) + "11 reversal 1000000\n11 revaluation -49000000\n"
                + "11 result 98000000\n");
        statement(ledger, 2, "11 result -98000000\n");
        ledger.reopen(11);
        ledger.setRate(11, 1);
        ledger.close(11);
        statement(ledger, 0, posted + "11 revaluation -48510000 0\n");
        statement(ledger, 2, "11 result -490000\n");
    }

    /** All 300 lines, each as long as it can be by posting. */
    private static void longestPaper() {
        SubLedger ledger = Check.taught("account a asset foreign;account i income;post abcdefghij{"
                + "debit a x*10;".repeat(4) + "credit a x*10;".repeat(4) + "}post two{debit a x;credit a x;}");
        for (int n = 0; n < 37; n++) {
            ledger.post(0, 11, -100000, 0, 0);
        }
        ledger.post(1, 10, 7, 0, 0);
        ledger.post(1, 9, 7, 0, 0);
        String eight = "11 abcdefghij -1000000 -1000000\n".repeat(4) + "11 abcdefghij 1000000 1000000\n".repeat(4);
        for (int n = 0; n < 3; n++) {
            statement(ledger, 0, eight.repeat(37) + "10 two 7 7\n10 two -7 -7\n9 two 7 7\n9 two -7 -7\n");
        }
        statement(ledger, 1, "");
    }

    /** "in the place of what was there": an account without lines leaves an empty paper. */
    private static void emptyPaper() {
        SubLedger ledger = Check.taught(TEXT);
        statement(ledger, CASH, "");
        ledger.post(0, 0, 5, 0, 0);
        statement(ledger, CASH, "0 p 5\n");
        statement(ledger, YEN, "");
        statement(ledger, IN, "0 p -5\n");
        for (int wrong : new int[] {-1, 4, MIN, MAX}) {
            Check.outOfBounds("state(" + wrong + ")", () -> ledger.state(wrong));
            Check.due("the paper stays", "0 p -5\n", () -> Check.paper(ledger));
        }
        Check.outOfBounds("state without accounts", () -> new SubLedger().state(0));
        SubLedger told = Check.taught(TEXT);
        told.setRate(0, 150);
        told.post(0, 1, 0, 4, 0);
        told.close(0);
        told.setRate(1, 150);
        told.close(1);
        statement(told, YEN, "1 p 4 4\n1 revaluation 2 0\n");
        told.reopen(1);
        Check.due("the paper stays as it was written", "1 p 4 4\n1 revaluation 2 0\n", () -> Check.paper(told));
        statement(told, YEN, "1 p 4 4\n");
        Check.due("a paper of before is gone", 8, () -> told.count(8));
    }

    /** "if there is no such place". */
    private static void paperBytes() {
        SubLedger ledger = Check.taught(TEXT);
        Check.outOfBounds("byteAt(0) at first", () -> ledger.byteAt(0));
        ledger.post(0, 11, -5, 0, 0);
        ledger.state(CASH);
        String want = "11 p -5\n";
        for (int i = 0; i < want.length(); i++) {
            int index = i;
            Check.due("byteAt(" + i + ")", (int) want.charAt(i), () -> ledger.byteAt(index));
        }
        for (int wrong : new int[] {-1, want.length(), want.length() + 1, MIN, MAX}) {
            Check.outOfBounds("byteAt(" + wrong + ")", () -> ledger.byteAt(wrong));
        }
        ledger.state(OWN);
        Check.outOfBounds("byteAt(0) of an empty paper", () -> ledger.byteAt(0));
        Check.outOfBounds("byteAt(7) of an empty paper", () -> ledger.byteAt(7));
        ledger.state(IN);
        Check.due("byteAt(6) of a shorter one", 10, () -> ledger.byteAt(6));
        Check.outOfBounds("byteAt(7) of a shorter one", () -> ledger.byteAt(7));
    }

    /** "what is allocated, of all lines that can be allocated, divided by their amounts"; "0 if these are 0". */
    private static void clearedParts() {
        Check.due("without accounts", 0.0, () -> new SubLedger().cleared());
        SubLedger ledger = Check.taught(TEXT);
        Check.due("without lines", 0.0, ledger::cleared);
        ledger.setRate(0, 1);
        ledger.post(0, 0, 0, 99, 0);
        Check.due("with a line of 0 alone", 0.0, ledger::cleared);
        ledger.setRate(0, 100);
        ledger.post(0, 0, 3, 0, 0);
        Check.due("with nothing allocated", 0.0, ledger::cleared);
        ledger.post(0, 0, -3, 0, 0);
        ledger.allocate(1, 3, 1);
        Check.due("one third", 2.0 / 6.0, ledger::cleared);
        ledger.allocate(1, 3, 1);
        Check.due("two thirds", 4.0 / 6.0, ledger::cleared);
        ledger.match(CASH);
        Check.due("all", 1.0, ledger::cleared);
        ledger.post(0, 0, 0, 0, 6);
        Check.due("half", 0.5, ledger::cleared);
        ledger.reverse(3, 0);
        Check.due("a reversal counts", 6.0 / 18.0, ledger::cleared);
        ledger.close(0);
        Check.due("closings do not", 6.0 / 18.0, ledger::cleared);
        ledger.undo(1);
        Check.due("none any more", 0.0, ledger::cleared);
    }

    /** Each part of the checksum, by its own change alone; and its wrap-around. */
    private static void digestParts() {
        SubLedger ledger = Check.taught(TEXT);
        long empty = ledger.digest();
        ledger.feed(0, 0, 0, 0, 0);
        // The tape's bytes are one of the 9 counts, with one count, the accounts and the periods behind it.
        long behind = 1;
        for (int n = 0; n < 1 + 4 * (6 + 36) + 12 * 4; n++) {
            behind *= 31;
        }
        long weight = behind;
        Check.due("20 bytes of the tape", empty + 20 * weight, ledger::digest);
        ledger.trim(0);
        Check.due("none again", empty, ledger::digest);
        ledger.setRate(11, 101);
        Check.due("a rate, with three numbers behind it", empty + 31 * 31 * 31, ledger::digest);
        ledger.setRate(11, 100);
        ledger.close(0);
        ledger.reopen(0);
        long times = 1;
        for (int n = 0; n < 11 * 4; n++) {
            times *= 31;
        }
        long ofClosing = times;
        Check.due("a period that was closed once", empty + ofClosing, ledger::digest);
    }
}
