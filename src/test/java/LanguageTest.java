public final class LanguageTest {
    public static void main(String[] args) {
        Check.due("count(0)", 0, () -> new SubLedger().count(0));
        Check.end("LanguageTest");
    }
}
