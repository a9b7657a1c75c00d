import java.util.ArrayList;
import java.util.Arrays;
import java.util.List;

/** Asks the program and the slow model of the document the same things, by long rows of calls. */
public final class ModelTest {
    private static final int TEXTS = 20000;
    private static final int RUNS = 600;
    private static final int CALLS = 512;
    private static final String WHOLE = "account a asset items foreign ; account b debt ; account c cost items ; "
            + "post p { debit a x + of b * min ( 1 , - ( 2 ) ) when not [ x < 1 or y >= 2 and z = 3 ] ; "
            + "credit b period / rate - max ( y , z ) ; rest a ; } post q { rest b ; }";
    private static final String VOCABULARY = "equity income > <= n 7 000000 1234567 abcdefghijk # =< ;;";

    private final Dice dice;
    private final SubLedger real = new SubLedger();
    private final Model model = new Model();
    private final List<String> told = new ArrayList<>();
    private boolean isSame = true;
    private boolean isTrading;

    private ModelTest(long seed) {
        dice = new Dice(seed);
    }

    public static void main(String[] args) {
        compareTexts();
        compareTokens();
        for (int seed = 1; seed <= RUNS; seed++) {
            compareRun(seed);
        }
        Check.end("ModelTest");
    }

    private static void compareTexts() {
        int[] seen = new int[7];
        for (int seed = 1; seed <= TEXTS; seed++) {
            seen[compareText(cut(new Texts(new Dice(seed)).spoilt(), 2000))]++;
        }
        for (int error = 0; error <= 6; error++) {
            int times = seen[error];
            Check.due("texts enough with error " + error, true, () -> times > 20);
        }
    }

    private static int compareText(String text) {
        ModelText want = new ModelText(text);
        SubLedger ledger = new SubLedger();
        Check.due("error of: " + text, want.error, () -> Check.teach(ledger, text));
        Check.due("place of the error of: " + text, want.errorAt, ledger::errorAt);
        return want.error;
    }

    /** At each place of a text of all productions, each token: as its last one, in the place of one, and ahead of it. */
    private static void compareTokens() {
        for (String token : (VOCABULARY + " " + WHOLE).split(" ")) {
            String[] all = WHOLE.split(" ");
            for (int i = 0; i <= all.length; i++) {
                String ahead = String.join(" ", Arrays.copyOf(all, i)) + " " + token;
                compareText(ahead);
                compareText(ahead + " " + String.join(" ", Arrays.copyOfRange(all, i, all.length)));
                compareText(ahead + " " + String.join(" ", Arrays.copyOfRange(all, Math.min(i + 1, all.length), all.length)));
            }
        }
    }

    private static String cut(String text, int length) {
        return text.substring(0, Math.min(length, text.length()));
    }

    private static void compareRun(int seed) {
        ModelTest run = new ModelTest(seed);
        run.teachSomething();
        while (run.told.size() < CALLS - 1 && run.isSame) {
            run.someCall();
        }
        run.compare("digest()", run.real::digest, run.model::digest);
        List<String> calls = run.told;
        Check.due("run " + seed + (run.isSame ? "" : " " + String.join("\n", calls)), true, () -> run.isSame);
    }

    private void compare(String call, Check.Call ofReal, Check.Call ofModel) {
        Object want = Check.answerOf(ofModel);
        Object got = Check.answerOf(ofReal);
        told.add(call + " -> " + got + (want.equals(got) ? "" : " BUT DUE IS " + want));
        isSame &= want.equals(got);
    }

    private void teachSomething() {
        Texts texts = new Texts(dice);
        String text = dice.oneIn(10) ? texts.spoilt() : texts.ledger();
        while (text.length() > 1900) {
            text = texts.ledger();
        }
        StringBuilder padded = new StringBuilder(text);
        while (padded.length() % 20 != 0) {
            padded.append(' ');
        }
        for (int at = 0; at < padded.length(); at += 20) {
            int[] five = new int[5];
            for (int i = 0; i < 20; i++) {
                five[i / 4] = five[i / 4] << 8 | padded.charAt(at + i) & 255;
            }
            compareFeed(five);
        }
        told.add(text);
        compare("teach()", real::teach, model::teach);
        compare("errorAt()", real::errorAt, model::errorAt);
        isTrading = dice.oneIn(2);
    }

    private void compareFeed(int[] v) {
        compare("feed", () -> real.feed(v[0], v[1], v[2], v[3], v[4]), () -> model.feed(v[0], v[1], v[2], v[3], v[4]));
    }

    /** A number of something there is, or, now and then, there is not. */
    private int some(int many) {
        if (dice.oneIn(60)) {
            return dice.oneIn(2) ? -dice.below(3) - 1 : dice.oneIn(2) ? Integer.MAX_VALUE : Integer.MIN_VALUE;
        }
        return dice.below(many + (dice.oneIn(15) ? 2 : 0) + (many == 0 ? 1 : 0));
    }

    private int account() {
        return some(real.count(0));
    }

    private int line() {
        return some(real.count(4));
    }

    /** Most often one near the first open one. */
    private int period() {
        return dice.oneIn(3) ? some(12) : Math.min(11, real.count(6) + dice.below(dice.oneIn(3) ? 3 : 1));
    }

    private int input() {
        switch (dice.below(isTrading ? 3 : 8)) {
            case 0: case 1: return dice.below(200);
            case 2: return dice.between(-50, 20) * 10;
            case 3: return dice.between(-100001, 100001);
            case 4: return dice.oneIn(2) ? 100000 : -100000;
            case 5: return 0;
            default: return dice.below(1000);
        }
    }

    private void someCall() {
        int kind = dice.below(100);
        if (kind < 20) {
            comparePost();
        } else if (kind < 30) {
            compareReversal();
        } else if (kind < 55) {
            compareAllocation(dice.below(7));
        } else if (kind < 65) {
            compareClosing(dice.below(6));
        } else if (kind < 75) {
            compareWouldBe();
        } else if (kind < 98) {
            compareTold(dice.below(10));
        } else {
            compareLanguage(dice.below(4));
        }
        if (dice.oneIn(20)) {
            compare("digest()", real::digest, model::digest);
        }
    }

    private void comparePost() {
        int t = some(real.count(1));
        int p = period();
        int x = input();
        int y = input();
        int z = input();
        compare("post(" + t + ", " + p + ", " + x + ", " + y + ", " + z + ")",
                () -> real.post(t, p, x, y, z), () -> model.post(t, p, x, y, z));
    }

    private void compareReversal() {
        int e = some(real.count(2));
        int p = period();
        if (dice.oneIn(3)) {
            compare("reverse(" + e + ", " + p + ")", () -> real.reverse(e, p), () -> model.reverse(e, p));
        }
    }

    private void compareAllocation(int kind) {
        int a = line();
        int b = line();
        int amount = dice.oneIn(10) ? dice.between(-1, 0) : dice.between(1, dice.oneIn(2) ? 20 : 300);
        int account = account();
        int from = period();
        int to = dice.oneIn(2) ? 11 : period();
        switch (kind) {
            case 0: case 1: compareAllocate(a, amount); break;
            case 2: compare("allocate(" + a + ", " + b + ", " + amount + ")",
                    () -> real.allocate(a, b, amount), () -> model.allocate(a, b, amount)); break;
            case 3: if (dice.oneIn(3)) {
                compare("match(" + account + ")", () -> real.match(account), () -> model.match(account));
            } break;
            case 4: compare("undo(" + a + ")", () -> real.undo(a), () -> model.undo(a)); break;
            case 5: compare("owed(" + account + ", " + from + ", " + to + ")",
                    () -> real.owed(account, from, to), () -> model.owed(account, from, to)); break;
            default: compare("exact(" + a + ")", () -> real.exact(a), () -> model.exact(a)); break;
        }
    }

    /** Looks for a line that could be allocated to this one. */
    private void compareAllocate(int a, int amount) {
        int many = real.count(4);
        for (int b = 0; b < many && a >= 0 && a < many; b++) {
            int other = b;
            boolean isOpposite = (long) real.line(a, 2) * real.line(b, 2) < 0 && real.line(b, 4) > 0;
            if (real.line(a, 1) == real.line(b, 1) && isOpposite && dice.oneIn(2)) {
                int most = Math.min(real.line(a, 4), real.line(b, 4));
                int taken = dice.oneIn(2) && most > 0 ? most : amount;
                compare("allocate(" + a + ", " + b + ", " + taken + ")",
                        () -> real.allocate(a, other, taken), () -> model.allocate(a, other, taken));
                return;
            }
        }
    }

    private void compareClosing(int kind) {
        int p = period();
        int rate = dice.oneIn(8) ? dice.between(-1, 202) : dice.between(1, 200);
        switch (kind) {
            case 0: case 1: case 2:
                compare("setRate(" + p + ", " + rate + ")", () -> real.setRate(p, rate), () -> model.setRate(p, rate));
                break;
            case 3: case 4:
                int next = dice.oneIn(4) ? p : real.count(6);
                compare("close(" + next + ")", () -> real.close(next), () -> model.close(next));
                break;
            default:
                int last = dice.oneIn(4) ? p : real.count(6) - 1;
                compare("reopen(" + last + ")", () -> real.reopen(last), () -> model.reopen(last));
                break;
        }
    }

    private void compareWouldBe() {
        int t = some(real.count(1));
        int p = period();
        int x = input();
        int y = input();
        int z = input();
        int account = account();
        int goal = dice.oneIn(4) ? dice.between(-1000001, 1000001) : dice.between(-300, 300);
        if (dice.oneIn(2)) {
            compare("would(" + t + ", " + p + ", " + x + ", " + y + ", " + z + ", " + account + ")",
                    () -> real.would(t, p, x, y, z, account), () -> model.would(t, p, x, y, z, account));
        } else {
            compare("solve(" + t + ", " + p + ", " + account + ", " + goal + ")",
                    () -> real.solve(t, p, account, goal), () -> model.solve(t, p, account, goal));
        }
    }

    private void compareTold(int kind) {
        int a = account();
        int p = period();
        int e = some(real.count(2));
        int l = line();
        int what = dice.between(-1, 9);
        boolean isForeign = dice.oneIn(2);
        String two = "(" + a + ", " + p + ")";
        switch (kind) {
            case 0: compare("count(" + what + ")", () -> real.count(what), () -> model.count(what)); break;
            case 1: compare("account(" + a + ", " + what + ")", () -> real.account(a, what), () -> model.account(a, what));
                break;
            case 2: compare("entry(" + e + ", " + what + ")", () -> real.entry(e, what), () -> model.entry(e, what)); break;
            case 3: compare("line(" + l + ", " + what + ")", () -> real.line(l, what), () -> model.line(l, what)); break;
            case 4: compare("balance" + two + isForeign,
                    () -> real.balance(a, p, isForeign), () -> model.balance(a, p, isForeign)); break;
            case 5: compare("trial(" + what + ", " + p + ")", () -> real.trial(what, p), () -> model.trial(what, p)); break;
            case 6: compare("period(" + p + ", " + what + ")", () -> real.period(p, what), () -> model.period(p, what));
                break;
            case 7: compare("restated" + two, () -> real.restated(a, p), () -> model.restated(a, p)); break;
            case 8: compare("state(" + a + ")", () -> real.state(a), () -> model.state(a)); break;
            default: compare("cleared()", real::cleared, model::cleared); break;
        }
    }

    private void compareLanguage(int kind) {
        int n = some(real.count(7));
        int place = some(real.count(8));
        switch (kind) {
            case 0: compareFeed(new int[] {0x6163636f, 0x756e7420, 0x71207265, 0x73742020, n}); break;
            case 1: compare("trim(" + n + ")", () -> real.trim(n), () -> model.trim(n)); break;
            case 2: compare("byteAt(" + place + ")", () -> real.byteAt(place), () -> model.byteAt(place)); break;
            default: compare("teach()", real::teach, model::teach); break;
        }
    }
}
