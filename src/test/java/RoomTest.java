import java.lang.management.ManagementFactory;

/** That a run of 512 calls makes little: all that its calls make lives in one room at once. */
public final class RoomTest {
    private static final int CALLS = 512;
    // The room has some 600,000 objects; the smallest one has 16 bytes, and a tenth of the room is plenty.
    private static final long ROOM = 600000L * 16 / 10;

    public static void main(String[] args) {
        SubLedger full = full();
        made("a new one and its text", 1, () -> full());
        made("state", CALLS, () -> full.state(0));
        made("digest", CALLS, () -> full.digest());
        made("count", CALLS, () -> full.count(3));
        made("account", CALLS, () -> full.account(0, 4));
        made("cleared", CALLS, () -> full.cleared());
        made("owed", CALLS, () -> full.owed(0, 0, 11));
        made("exact", CALLS, () -> full.exact(0));
        made("would", CALLS, () -> full.would(1, 0, 1, 1, 1, 0));
        made("solve", CALLS, () -> full.solve(1, 0, 0, 7));
        made("match and undo", CALLS / 2, () -> full.match(0) + full.undo(0));
        SubLedger closing = Check.taught("account a asset foreign;account i income;account e equity;post p{debit a x;rest i;}");
        closing.post(0, 0, 10, 0, 0);
        closing.setRate(0, 150);
        made("close and reopen", CALLS / 2, () -> closing.close(0) + closing.reopen(0));
        SubLedger told = new SubLedger();
        made("feed and teach", CALLS / 2, () -> told.feed(0x6120623b, 0x6120623b, 0x6120623b, 0x6120623b, 0x6120623b)
                + told.teach());
        Check.end("RoomTest");
    }

    /** 300 lines, 298 of them of the first account, which has 59 debits and credits that can be allocated. */
    private static SubLedger full() {
        SubLedger ledger = Check.taught("account a asset items foreign;account i income;post p{"
                + "debit a 1;".repeat(4) + "credit a 1;".repeat(4) + "}post q{debit a x;rest i;}");
        ledger.post(1, 11, 60, 0, 0);
        ledger.reverse(0, 11);
        for (int n = 0; n < 37; n++) {
            ledger.post(0, 11, 0, 0, 0);
        }
        return ledger;
    }

    private static long bytes() {
        return ((com.sun.management.ThreadMXBean) ManagementFactory.getThreadMXBean()).getCurrentThreadAllocatedBytes();
    }

    private static void made(String what, int times, Check.Call call) {
        Check.answerOf(call);
        long before = bytes();
        for (int n = 0; n < times; n++) {
            Check.answerOf(call);
        }
        long made = bytes() - before;
        Check.due(times + " times " + what + " make " + made + " bytes", true, () -> made < ROOM);
    }
}
