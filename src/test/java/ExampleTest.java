/** The example that README.md tells. */
public final class ExampleTest {
    private static final String TEXT = "account cash asset;\n"
            + "account clients asset items;\n"
            + "account yen asset foreign;\n"
            + "account capital equity;\n"
            + "account sales income;\n"
            + "account rent cost;\n"
            + "post invoice { debit clients x; rest sales; }\n"
            + "post payment { debit cash min(x, of clients); rest clients; }\n"
            + "post change { debit yen x; rest cash; }\n"
            + "post pay { debit rent x when x > 0; credit cash x; }\n";

    public static void main(String[] args) {
        example();
        wrongText();
        Check.end("ExampleTest");
    }

    static void feed(SubLedger ledger, String text) {
        int[] numbers = new int[(text.length() + 19) / 20 * 5];
        for (int i = 0; i < text.length(); i++) {
            numbers[i / 4] |= text.charAt(i) << 24 - i % 4 * 8;
        }
        int before = ledger.count(7);
        for (int i = 0; i < numbers.length; i += 5) {
            ledger.feed(numbers[i], numbers[i + 1], numbers[i + 2], numbers[i + 3], numbers[i + 4]);
        }
        ledger.trim(before + text.length());
    }

    private static void example() {
        SubLedger ledger = new SubLedger();
        feed(ledger, TEXT);
        Check.due("teach", 0, ledger::teach);
        Check.due("post an invoice", 0, () -> ledger.post(0, 0, 1200, 0, 0));
        Check.due("would", 700, () -> ledger.would(1, 0, 500, 0, 0, 1));
        Check.due("post a payment", 1, () -> ledger.post(1, 0, 500, 0, 0));
        Check.due("match", 500, () -> ledger.match(1));
        Check.due("owed", 700, () -> ledger.owed(1, 0, 11));
        Check.due("post a change", 2, () -> ledger.post(2, 0, 300, 0, 0));
        Check.due("setRate", 100, () -> ledger.setRate(0, 110));
        Check.due("close", 2, () -> ledger.close(0));
        Check.due("balance", 330, () -> ledger.balance(2, 0, false));
        Check.due("solve", 150, () -> ledger.solve(3, 1, 0, 50));
        Check.due("state", 36, () -> ledger.state(2));
        Check.due("paper", "0 change 300 300\n0 revaluation 30 0\n", () -> Check.paper(ledger));
        Check.badState("post in a closed period", () -> ledger.post(0, 0, 1, 0, 0));
    }

    private static void wrongText() {
        SubLedger ledger = new SubLedger();
        feed(ledger, "account cash asset; post p { debit cahs x; rest cash; }");
        Check.due("teach", 3, ledger::teach);
        Check.due("errorAt", 35, ledger::errorAt);
    }
}
