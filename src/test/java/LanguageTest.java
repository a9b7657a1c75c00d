/** Promises 1 to 7: a new object, feed, trim, teach, errorAt, count, account. */
public final class LanguageTest {
    private static final String A = "account a asset;";

    public static void main(String[] args) {
        newObject();
        feed();
        trim();
        teach();
        words();
        symbols();
        grammar();
        depth();
        tokenLimit();
        names();
        limits();
        restsAndForeigns();
        errorOrder();
        evaluation();
        wrapping();
        errorAt();
        count();
        account();
        Check.end("LanguageTest");
    }

    private static void newObject() {
        SubLedger ledger = new SubLedger();
        for (int what = 0; what <= 8; what++) {
            int asked = what;
            Check.due("new count(" + what + ")", 0, () -> ledger.count(asked));
        }
        for (int p = 0; p < 12; p++) {
            int period = p;
            Check.due("new rate of " + p, 100, () -> ledger.period(period, 0));
            Check.due("new period closed " + p, 0, () -> ledger.period(period, 1));
            Check.due("new entries of " + p, 0, () -> ledger.period(period, 2));
            Check.due("new closings of " + p, 0, () -> ledger.period(period, 3));
        }
        Check.due("new errorAt()", -1, ledger::errorAt);
        Check.outOfBounds("new account(0, 0)", () -> ledger.account(0, 0));
        Check.outOfBounds("new post(0, 0, 0, 0, 0)", () -> ledger.post(0, 0, 0, 0, 0));
        Check.outOfBounds("new line(0, 0)", () -> ledger.line(0, 0));
        Check.outOfBounds("new entry(0, 0)", () -> ledger.entry(0, 0));
        Check.outOfBounds("new byteAt(0)", () -> ledger.byteAt(0));
    }

    private static void feed() {
        SubLedger ledger = new SubLedger();
        for (int n = 1; n <= 100; n++) {
            Check.due("feed " + n, 20 * n, () -> ledger.feed(-1, 0, 1, Integer.MIN_VALUE, 5));
        }
        Check.badState("feed beyond 2000", () -> ledger.feed(0, 0, 0, 0, 0));
        Check.due("tape when full", 2000, () -> ledger.count(7));
        ledger.trim(1981);
        Check.badState("feed beyond 2000 by one", () -> ledger.feed(0, 0, 0, 0, 0));
        ledger.trim(1980);
        Check.due("feed to 2000", 2000, () -> ledger.feed(0, 0, 0, 0, 0));
        SubLedger order = new SubLedger();
        order.feed(0x6163636f, 0x756e7420, 0x61206465, 0x62743b20, 0x20202020);
        Check.due("bytes in their order", 0, order::teach);
        Check.due("bytes in their order", 1, () -> order.account(0, 0));
    }

    private static void trim() {
        SubLedger ledger = new SubLedger();
        Check.due("trim(0) of nothing", 0, () -> ledger.trim(0));
        Check.badArgument("trim(1) of nothing", () -> ledger.trim(1));
        ledger.feed(1, 2, 3, 4, 5);
        Check.badArgument("trim(-1)", () -> ledger.trim(-1));
        Check.badArgument("trim(21)", () -> ledger.trim(21));
        Check.badArgument("trim of the least", () -> ledger.trim(Integer.MIN_VALUE));
        Check.due("tape behind wrong trims", 20, () -> ledger.count(7));
        Check.due("trim(20)", 20, () -> ledger.trim(20));
        Check.due("trim(7)", 7, () -> ledger.trim(7));
        Check.due("tape behind trim(7)", 7, () -> ledger.count(7));
        Check.badArgument("trim(8) behind trim(7)", () -> ledger.trim(8));
        Check.due("feed behind trim", 27, () -> ledger.feed(0, 0, 0, 0, 0));
    }

    private static void teach() {
        SubLedger ledger = Check.taught(A + "account b debt;post p{debit a x;}");
        Check.due("tape behind teach", 0, () -> ledger.count(7));
        Check.due("wrong text", 1, () -> Check.teach(ledger, "account q asset; account"));
        Check.due("tape behind wrong teach", 0, () -> ledger.count(7));
        Check.due("accounts behind wrong teach", 2, () -> ledger.count(0));
        Check.due("templates behind wrong teach", 1, () -> ledger.count(1));
        Check.due("kind behind wrong teach", 1, () -> ledger.account(1, 0));
        Check.due("wrong name", 3, () -> Check.teach(ledger, "account q asset; post p{rest a;}"));
        Check.due("accounts behind wrong name", 2, () -> ledger.count(0));
        Check.due("another text", 0, () -> Check.teach(ledger, "account q cost;"));
        Check.due("accounts in the place of others", 1, () -> ledger.count(0));
        Check.due("templates in the place of others", 0, () -> ledger.count(1));
        Check.due("kind in the place of another", 4, () -> ledger.account(0, 0));
        Check.due("empty text", 0, ledger::teach);
        Check.due("accounts behind empty text", 0, () -> ledger.count(0));
        ledger.setRate(3, 77);
        Check.teach(ledger, A);
        Check.due("rate behind teach", 77, () -> ledger.period(3, 0));
        teachTooLate();
    }

    private static void teachTooLate() {
        SubLedger ledger = Check.taught(A + "post p{debit a x;credit a x;}");
        ledger.close(0);
        Check.feed(ledger, "account");
        Check.badState("teach with a closed period", ledger::teach);
        Check.due("tape behind a teach that throws", 7, () -> ledger.count(7));
        Check.due("errorAt behind a teach that throws", -1, ledger::errorAt);
        ledger.reopen(0);
        Check.due("teach when it is open again", 1, ledger::teach);
        ledger.post(0, 0, 1, 0, 0);
        Check.badState("teach with entries", ledger::teach);
        SubLedger voided = Check.taught("account e asset foreign;account i income;post p{debit e x;rest i;}");
        voided.post(0, 11, 1, 0, 0);
        voided.close(0);
        voided.reopen(0);
        Check.badState("teach with an entry of a later period", voided::teach);
    }

    /** A text, and the error and its place that are due; the place counts from a mark ^ in the text. */
    private static void wrong(int error, String marked) {
        String text = marked.replace("^", "");
        SubLedger ledger = new SubLedger();
        Check.due("error of " + marked, error, () -> Check.teach(ledger, text));
        Check.due("place of the error of " + marked, marked.indexOf('^'), ledger::errorAt);
    }

    private static void right(String text) {
        wrong(0, text);
    }

    private static void words() {
        right("account abcdefghij asset;");
        right("account azbycxz099 asset;account z9 debt;");
        wrong(1, "account ^abcdefghijk asset;");
        right("account a123456789 asset;");
        wrong(1, "account ^a1234567890 asset;");
        right("account accounts asset;account items1 debt;account x1 cost;");
        wrong(1, "account ^items asset;");
        wrong(1, "account ^rate asset;");
        wrong(1, "account ^1a asset;");
        wrong(1, "account a^B asset;");
        wrong(1, "account ^_a asset;");
        right("\n \naccount\na\nasset\n;\n\n");
        wrong(1, "account^\ta asset;");
        wrong(1, "account^\ra asset;");
        wrong(1, "account a asset;^\u0000");
        wrong(1, "account a asset;^\u00ff");
        wrong(1, "^accounta asset;");
        wrong(1, "account ^asset;");
        wrong(1, "account a ^assetitems;");
        right(A + "post p{debit a 123456;}");
        wrong(1, A + "post p{debit a ^1234567;}");
        wrong(1, A + "post p{debit a ^0000001;}");
        wrong(1, A + "post p{debit a 12^b;}");
        right(A + "post p{debit a 1when 2<3and 4<5;}");
        wrong(1, A + "post p{debit a ^xwhen 2<3;}");
    }

    private static void symbols() {
        right(A + "post p{debit a x when x<=1;debit a x when x>=1;debit a x when x=1;}");
        wrong(1, A + "post p{debit a x when x< ^=1;}");
        wrong(1, A + "post p{debit a x when x=^<1;}");
        wrong(1, A + "post p{debit a x when x<^>1;}");
        wrong(1, A + "post p{debit a x when x<=^=1;}");
        wrong(1, A + "post p{debit a x ^% 2;}");
        wrong(1, A + "post p{debit a x^.5;}");
        wrong(1, "account a asset^:");
        wrong(1, "account a asset;^\"");
    }

    private static void grammar() {
        right("");
        right(" \n ");
        wrong(1, "account^");
        wrong(1, "account a asset  ^");
        wrong(1, "account a asset^");
        wrong(1, "account a ^;");
        wrong(1, "account a ^items;");
        wrong(1, A + "post p{^items a;}");
        wrong(1, A + "post p{debit ^1 x;}");
        wrong(1, A + "post p{rest ^;}");
        wrong(1, "^a asset;");
        wrong(1, "account a asset foreign ^items;");
        right("account a asset items foreign;account b debt items;account c equity foreign;");
        wrong(1, "account a asset items ^items;");
        wrong(1, "post p{^}");
        wrong(1, "post p ^rest a;}");
        wrong(1, A + "post p{rest a;^;}");
        wrong(1, A + "post p{rest a ^x;}");
        wrong(1, A + "post p{rest a; debit a ^when x=1;}");
        wrong(1, A + "post p{debit a x^");
        wrong(1, A + "post p{debit a x;^");
        wrong(1, A + "post p{debit a x;}^}");
        wrong(1, A + "post p{debit a x ^y;}");
        wrong(1, A + "post p{debit a x+^;}");
        wrong(1, A + "post p{debit a x+^*y;}");
        right(A + "post p{debit a x+-y*-z;}");
        wrong(1, A + "post p{debit a x-^+y;}");
        wrong(1, A + "post p{debit a (x^;}");
        wrong(1, A + "post p{debit a min(x^);}");
        wrong(1, A + "post p{debit a min(x,y^,z);}");
        wrong(1, A + "post p{debit a max ^x;}");
        wrong(1, A + "post p{debit a of ^1;}");
        wrong(1, A + "post p{debit a of ^x;}");
        wrong(1, A + "post p{debit a x when x^;}");
        wrong(1, A + "post p{debit a x when x ^and y=1;}");
        wrong(1, A + "post p{debit a x when (x^=1);}");
        wrong(1, A + "post p{debit a x when [x=1^;}");
        wrong(1, A + "post p{debit a x when [x^] = 1;}");
        wrong(1, A + "post p{debit a x when x=1^=1;}");
        wrong(1, A + "post p{debit a x when x=1 or^;}");
        wrong(1, A + "post p{debit a ^not x;}");
        wrong(1, A + "post p{debit a x when x=^not 1;}");
        right(A + "post p{debit a x when not [not x=1 and y=2 or z=3] and (x)<(y) or 1=1;}");
        right(A + "post p{rest a;}account b cost;post q{rest b;credit b of a/of b;}");
        wrong(1, A + "post ^{rest a;}");
    }

    private static void depth() {
        right(A + "post p{debit a (((((((x)))))));}");
        wrong(1, A + "post p{debit a (((((((^(x))))))));}");
        right(A + "post p{debit a -------x;}");
        wrong(1, A + "post p{debit a -------^-x;}");
        right(A + "post p{debit a x--------y;}");
        wrong(1, A + "post p{debit a x--------^-y;}");
        right(A + "post p{debit a -(-(-(-x)));}");
        wrong(1, A + "post p{debit a -(-(-(-^(x))));}");
        wrong(1, A + "post p{debit a -(-(-(-^-x)));}");
        right(A + "post p{debit a (-x)-(-(-(-x)))/-(((((x)))));}");
        right(A + "post p{debit a min(1,max(1,min(1,max(1,min(1,max(1,min(1,x)))))));}");
        wrong(1, A + "post p{debit a min(1,max(1,min(1,max(1,min(1,max(1,min(1,max^(1,x))))))));}");
        right(A + "post p{debit a x when [[[[[[[x=1]]]]]]];}");
        wrong(1, A + "post p{debit a x when [[[[[[[^[x=1]]]]]]]];}");
        right(A + "post p{debit a min(((((((x)))))),1);}");
        wrong(1, A + "post p{debit a min(((((((^(x))))))),1);}");
        wrong(1, A + "post p{debit a min(1,((((((^(x))))))));}");
        right(A + "post p{debit a x when not not not not not not not x=1;}");
        wrong(1, A + "post p{debit a x when not not not not not not not ^not x=1;}");
        wrong(1, A + "post p{debit a x when not not not not not not not ^-x=1;}");
        wrong(1, A + "post p{debit a x when not not not not not not not x=^(1);}");
        right(A + "post p{debit a x when not not not not not not not x=1 and -x=1 or [-x=1];}");
        right(A + "post p{debit a ((((((x))))))+((((((x))))))*-------x;}");
        wrong(1, A + "post p{debit a x when [not [not [not [^not x=1]]]];}");
        right(A + "post p{debit a x when [not [not [not [x=1]]]];}");
        wrong(1, A + "post p{debit a x when not [not [not [-^-x=1]]];}");
    }

    private static String plus(int many) {
        return "+x".repeat(many);
    }

    /** The account has 4 tokens, the template 8, and each +x two. */
    private static void tokenLimit() {
        right(A + "post p{debit a x" + plus(194) + ";}");
        right(A + "post p{debit a x" + plus(194) + ";}\n ");
        wrong(1, A + "post p{debit a -x" + plus(194) + ";^}");
        wrong(1, A + "post p{debit a x" + plus(194) + ";} ^account b asset;");
        wrong(1, A + "post p{debit a x" + plus(194) + ";}^#");
        wrong(1, A + "post p{debit a -x" + plus(194) + "; ^");
        wrong(1, A + "post p{debit a x" + plus(195) + "^;account a asset;");
    }

    private static void names() {
        wrong(2, A + "account ^a debt;");
        right(A + "post a{rest a;}");
        wrong(2, A + "post p{rest a;}post ^p{rest a;}");
        wrong(3, A + "post p{debit ^b x;}");
        wrong(3, A + "post p{credit ^b x;}");
        wrong(3, A + "post p{rest ^b;}");
        wrong(3, A + "post p{debit a of ^p;}");
        wrong(3, A + "post p{debit a x when of ^b=1;}");
        wrong(3, "post p{rest ^a;}" + A);
        wrong(3, A + "post p{rest a; credit a of ^b;}account b asset;");
        right(A + "account b asset;post p{rest b; credit a of b;}");
        wrong(3, "account ab asset;post p{rest ^a;}");
    }

    private static String accounts(int from, int to) {
        StringBuilder text = new StringBuilder();
        for (int i = from; i <= to; i++) {
            text.append("account a").append(i).append(" asset;");
        }
        return text.toString();
    }

    private static String posts(int many) {
        StringBuilder text = new StringBuilder();
        for (int i = 1; i <= many; i++) {
            text.append("post p").append(i).append("{rest a;}");
        }
        return text.toString();
    }

    private static void limits() {
        right(accounts(1, 16));
        wrong(4, accounts(1, 16) + "account ^a17 asset;");
        wrong(2, accounts(1, 16) + "account ^a3 asset;");
        wrong(4, accounts(1, 16) + "account ^a17 asset;account a18 cost foreign;");
        right(A + posts(10));
        wrong(4, A + posts(10) + "post ^q{rest a;}");
        wrong(2, A + posts(10) + "post ^p10{rest a;}");
        right(A + "post p{" + "debit a x;".repeat(7) + "rest a;}");
        wrong(4, A + "post p{" + "credit a x;".repeat(8) + "^rest a;}");
        wrong(4, A + "post p{rest a;" + "credit a x;".repeat(7) + "^rest a;}");
        wrong(4, A + "post p{" + "credit a x;".repeat(8) + "^credit b x;}");
        wrong(4, A + "post p{" + "credit a x;".repeat(8) + "^debit a x;rest a;}");
        right(A + "post p{" + "debit a x;".repeat(8) + "}post q{" + "debit a x;".repeat(8) + "}");
    }

    private static void restsAndForeigns() {
        wrong(5, A + "post p{rest a;^rest a;}");
        wrong(5, A + "post p{rest a;debit a x;^rest b;}");
        right(A + "post p{rest a;}post q{rest a;}");
        wrong(6, "account i income ^foreign;");
        wrong(6, "account i income items ^foreign;");
        wrong(6, "account i cost items ^foreign;");
        right("account i cost items;account j income items;account k equity foreign;account l debt foreign;");
    }

    private static void errorOrder() {
        wrong(1, A + "account a debt;post p{debit b x;^x}");
        wrong(1, "account i income foreign;^i");
        wrong(2, A + "account ^a cost foreign;post p{rest b;}");
        wrong(6, "account a cost ^foreign;account a asset;");
        wrong(3, A + "post p{rest ^b;rest a;}");
        wrong(5, A + "post p{rest a;^rest b;debit c x;}");
        wrong(3, A + "post p{debit ^b of c;}post p{rest a;}");
    }

    /** What a sum comes to, told by the amount of its line. */
    private static void sum(int want, String sum, int x, int y, int z) {
        SubLedger ledger = Check.taught("account a asset;account i income;post p{debit a " + sum + ";rest i;}");
        ledger.setRate(5, 70);
        Check.due(sum + " of " + x + ", " + y + ", " + z, want, () -> {
            ledger.post(0, 5, x, y, z);
            return ledger.line(0, 2);
        });
    }

    private static void test(boolean want, String test, int x, int y, int z) {
        SubLedger ledger = Check.taught("account a asset;account i income;post p{debit a 5 when " + test
                + ";debit a 7 when not [" + test + "];rest i;}");
        ledger.setRate(5, 70);
        Check.due(test + " of " + x + ", " + y + ", " + z, want ? 5 : 7, () -> {
            ledger.post(0, 5, x, y, z);
            return ledger.line(0, 2);
        });
    }

    private static void evaluation() {
        sum(7, "1+2*3", 0, 0, 0);
        sum(9, "(1+2)*3", 0, 0, 0);
        sum(5, "10-3-2", 0, 0, 0);
        sum(2, "20/5/2", 0, 0, 0);
        sum(8, "20/5*2", 0, 0, 0);
        sum(-3, "x/2", -7, 0, 0);
        sum(-3, "x/y", 7, -2, 0);
        sum(3, "x/y", -7, -2, 0);
        sum(4, "x/y+4", 5, 0, 0);
        sum(-6, "-x*y", 2, 3, 0);
        sum(1, "-x+y", 2, 3, 0);
        sum(2, "--x", 2, 0, 0);
        sum(5, "x--y", 2, 3, 0);
        sum(123, "x*100+y*10+z", 1, 2, 3);
        sum(5, "period", 0, 0, 0);
        sum(70, "rate", 0, 0, 0);
        sum(2, "min(x,y)", 2, 3, 0);
        sum(2, "min(y,x)", 2, 3, 0);
        sum(3, "max(x,y)", 2, 3, 0);
        sum(-2, "max(-x,-y)", 2, 3, 0);
        sum(5, "min(x,max(y,z))", 9, 4, 5);
        test(true, "x<y", 1, 2, 0);
        test(false, "x<y", 2, 2, 0);
        test(true, "x<=y", 2, 2, 0);
        test(false, "x<=y", 3, 2, 0);
        test(true, "x>y", 3, 2, 0);
        test(false, "x>y", 2, 2, 0);
        test(true, "x>=y", 2, 2, 0);
        test(false, "x>=y", 1, 2, 0);
        test(true, "x=y", 2, 2, 0);
        test(false, "x=y", 2, -2, 0);
        test(true, "x=1 or y=1 and z=1", 1, 0, 0);
        test(false, "[x=1 or y=1] and z=1", 1, 0, 0);
        test(true, "x=1 and y=1 or z=1", 0, 0, 1);
        test(false, "x=1 and [y=1 or z=1]", 0, 0, 1);
        test(false, "not x=1 and y=1", 0, 0, 0);
        test(true, "not [x=1 and y=1]", 0, 0, 0);
        test(true, "not x=1 or y=1", 1, 1, 0);
        test(false, "not not x=1", 0, 1, 0);
        test(true, "x+1<y*2", 2, 2, 0);
        test(true, "not [x=1 and y=1] or z=1", 1, 0, 0);
        test(false, "not [x=1 or y=1] and z=1", 1, 0, 1);
    }

    private static void wrapping() {
        // 65536 * 32768 is the least number, 65536 * 65536 is 0.
        sum(17, "65536*65536+17", 0, 0, 0);
        sum(-1000000, "65536*32768/2147+225", 0, 0, 0);
        test(true, "65536*32768<0", 0, 0, 0);
        test(true, "65536*32768-1>0", 0, 0, 0);
        test(true, "-(65536*32768)=65536*32768", 0, 0, 0);
        test(true, "65536*32768/-1=65536*32768", 0, 0, 0);
        test(true, "65536*32768/-1<0", 0, 0, 0);
        test(true, "(65536*32768-1)+1<0", 0, 0, 0);
        sum(141006, "100000*100000/10000", 0, 0, 0);
        test(true, "1/0=0", 0, 0, 0);
    }

    private static void errorAt() {
        SubLedger ledger = new SubLedger();
        Check.teach(ledger, "account a asset;account a debt;");
        Check.due("errorAt of error 2", 24, ledger::errorAt);
        Check.due("errorAt once more", 24, ledger::errorAt);
        Check.teach(ledger, "account a asset;account ");
        Check.due("errorAt of the end", 24, ledger::errorAt);
        Check.teach(ledger, "  ");
        Check.due("errorAt of none", -1, ledger::errorAt);
        Check.teach(ledger, " ;");
        Check.due("errorAt of the first", 1, ledger::errorAt);
        ledger.close(0);
        Check.badState("teach with a closed period", ledger::teach);
        Check.due("errorAt of the latest that read", 1, ledger::errorAt);
    }

    private static void count() {
        SubLedger ledger = Check.taught("account a asset items foreign;account i income;account e equity;"
                + "post p{debit a x;rest i;}post q{credit a x;rest i;}");
        ledger.post(0, 0, 10, 0, 0);
        ledger.post(1, 0, 4, 0, 0);
        ledger.setRate(0, 50);
        ledger.match(0);
        ledger.close(0);
        ledger.close(1);
        ledger.reopen(1);
        ledger.feed(0, 0, 0, 0, 0);
        int bytes = ledger.state(0);
        int[] want = {3, 2, 4, 1, 8, 1, 1, 20, bytes};
        for (int what = 0; what <= 8; what++) {
            int asked = what;
            Check.due("count(" + what + ")", want[what], () -> ledger.count(asked));
        }
        Check.outOfBounds("count(-1)", () -> ledger.count(-1));
        Check.outOfBounds("count(9)", () -> ledger.count(9));
        Check.outOfBounds("count of the most", () -> ledger.count(Integer.MAX_VALUE));
    }

    private static void account() {
        SubLedger ledger = Check.taught("account a asset items foreign;account d debt foreign;account e equity;"
                + "account i income items;account c cost;post p{debit a x;rest i;}post q{credit a x;rest i;}");
        int[][] want = {{0, 1, 1}, {1, 0, 1}, {2, 0, 0}, {3, 1, 0}, {4, 0, 0}};
        for (int a = 0; a < 5; a++) {
            for (int what = 0; what < 3; what++) {
                int number = a;
                int asked = what;
                Check.due("account(" + a + ", " + what + ")", want[a][what], () -> ledger.account(number, asked));
            }
        }
        ledger.post(0, 0, 10, 0, 0);
        ledger.post(0, 11, 5, 0, 0);
        ledger.post(1, 1, 4, 0, 0);
        ledger.allocate(0, 4, 3);
        Check.due("lines", 3, () -> ledger.account(0, 3));
        Check.due("open debits", 12, () -> ledger.account(0, 4));
        Check.due("open credits", 1, () -> ledger.account(0, 5));
        Check.due("open credits of income", 15, () -> ledger.account(3, 5));
        Check.due("open debits of income", 4, () -> ledger.account(3, 4));
        ledger.setRate(0, 50);
        ledger.close(0);
        Check.due("lines with a revaluation", 4, () -> ledger.account(0, 3));
        Check.due("lines of another", 0, () -> ledger.account(4, 3));
        Check.due("open credits without a revaluation", 1, () -> ledger.account(0, 5));
        ledger.reopen(0);
        Check.due("lines without a void one", 3, () -> ledger.account(0, 3));
        Check.due("no items, nothing open", 0, () -> ledger.account(4, 4));
        Check.outOfBounds("account(-1, 0)", () -> ledger.account(-1, 0));
        Check.outOfBounds("account(5, 0)", () -> ledger.account(5, 0));
        Check.outOfBounds("account(0, -1)", () -> ledger.account(0, -1));
        Check.outOfBounds("account(0, 6)", () -> ledger.account(0, 6));
    }
}
