/** The boundary cases that "1. The language" and promises 1 to 7 name, one sentence after the other. */
public final class LanguageEdgesTest {
    private static final String A = "account a asset;";
    private static final String[] KEYWORDS = ("account asset debt equity income cost items foreign post debit credit rest "
            + "when of and or not min max x y z period rate").split(" ");
    private static final int[] NUMBERS = {0, 1, -1, 2, -2, 7, -7, 999999, 46340, 46341, 65536, -65536, Integer.MAX_VALUE,
        Integer.MAX_VALUE - 1, Integer.MIN_VALUE, Integer.MIN_VALUE + 1};

    public static void main(String[] args) {
        wrapping();
        comparing();
        truthTables();
        chains();
        turnedRound();
        deepSums();
        fullTape();
        behindTheTape();
        tapeBehindTeach();
        everyByte();
        blanks();
        keywords();
        words();
        numbers();
        endOfTape();
        wrongHeads();
        mixedDepth();
        depthFallsBack();
        lastTokens();
        errorOneIsFirst();
        leftmostError();
        namesOfTheirOwn();
        smallestError();
        wrongTextsChangeNothing();
        numbersOfNames();
        toldNumbers();
        Check.end("LanguageEdgesTest");
    }

    /** A text, and the error and its place that are due; the place counts from a mark ^ in the text. */
    private static void wrong(int error, String marked) {
        int place = marked.indexOf('^');
        String text = place < 0 ? marked : marked.substring(0, place) + marked.substring(place + 1);
        wrong(error, place, text);
    }

    private static void wrong(int error, int place, String text) {
        SubLedger ledger = new SubLedger();
        Check.due("error of " + text, error, () -> Check.teach(ledger, text));
        Check.due("place of the error of " + text, place, ledger::errorAt);
    }

    private static void right(String text) {
        wrong(0, -1, text);
    }

    /** The number as the language can write it. */
    private static String written(int number) {
        int high = number >> 16;
        return "(" + (high < 0 ? "-" + -high : "" + high) + "*65536+" + (number & 65535) + ")";
    }

    /** Which of the tests hold, as the sum of the powers 2^k of their places. */
    private static int holding(String... tests) {
        StringBuilder text = new StringBuilder("account a asset;account i income;post p{debit a 1000;");
        for (int k = 0; k < tests.length; k++) {
            text.append("debit a ").append(1 << k).append(" when ").append(tests[k]).append(";");
        }
        SubLedger ledger = Check.taught(text + "rest i;}");
        ledger.post(0, 0, 0, 0, 0);
        return ledger.balance(0, 0, false) - 1000;
    }

    /** "sums, differences and products wrap around in 32 bits; / is cut towards 0, a division by 0 gives 0, and so on". */
    private static void wrapping() {
        for (int a : NUMBERS) {
            for (int b : NUMBERS) {
                int quotient = b == 0 ? 0 : (int) ((long) a / b);
                String left = written(a);
                String right = written(b);
                Check.due("+ - * / of " + a + " and " + b, 15, () -> holding(
                        left + "+" + right + "=" + written(a + b), left + "-" + right + "=" + written(a - b),
                        left + "*" + right + "=" + written(a * b), left + "/" + right + "=" + written(quotient)));
            }
            Check.due(a + " turned round", 1, () -> holding("-" + written(a) + "=" + written(-a)));
        }
    }

    private static void comparing() {
        for (int a : NUMBERS) {
            for (int b : NUMBERS) {
                String left = written(a);
                String right = written(b);
                int want = (a < b ? 1 : 0) + (a > b ? 2 : 0) + (a == b ? 4 : 0) + (a <= b ? 8 : 0) + (a >= b ? 16 : 0);
                Check.due("comparing " + a + " and " + b, want, () -> holding(left + "<" + right, left + ">" + right,
                        left + "=" + right, left + "<=" + right, left + ">=" + right));
                Check.due("min and max of " + a + " and " + b, 3, () -> holding(
                        "min(" + left + "," + right + ")=" + written(Math.min(a, b)),
                        "max(" + left + "," + right + ")=" + written(Math.max(a, b))));
            }
        }
    }

    private static void truthTables() {
        String[] tests = {"1=0", "1=1"};
        for (int a = 0; a < 2; a++) {
            for (int b = 0; b < 2; b++) {
                for (int c = 0; c < 2; c++) {
                    String p = tests[a];
                    String q = tests[b];
                    String r = tests[c];
                    int want = (a & b) + 2 * (a | b) + 4 * (1 - a & b) + 8 * (1 - (a | b)) + 16 * (1 - a | b);
                    Check.due("tests of " + p + " and " + q, want, () -> holding(p + " and " + q, p + " or " + q,
                            "not " + p + " and " + q, "not[" + p + " or " + q + "]", "not " + p + " or " + q));
                    int wantOfThree = (a | b & c) + 2 * ((a | b) & c) + 4 * (a & 1 - b | c) + 8 * (a & b | 1 - c);
                    Check.due("tests of " + p + ", " + q + ", " + r, wantOfThree, () -> holding(p + " or " + q + " and " + r,
                            "[" + p + " or " + q + "] and " + r, p + " and not " + q + " or " + r,
                            p + " and " + q + " or not " + r));
                }
            }
        }
    }

    /** "{ x } x any number of times": long rows of each sign, worked off from the left. */
    private static void chains() {
        for (int many = 0; many <= 24; many++) {
            StringBuilder or = new StringBuilder("0=1");
            StringBuilder and = new StringBuilder("0=0");
            for (int k = 1; k <= many; k++) {
                or.append(" or x=").append(k);
                and.append(" and x<").append(100 - k);
            }
            int[] asked = {1, many, many + 1, 99 - many, 100 - many};
            for (int x : asked) {
                int want = (x >= 1 && x <= many ? 1 : 0) + (x < 100 - many || many == 0 ? 2 : 0);
                SubLedger ledger = Check.taught("account a asset;account i income;post p{debit a 1000;debit a 1 when " + or
                        + ";debit a 2 when " + and + ";rest i;}");
                ledger.post(0, 0, x, 0, 0);
                Check.due(many + " times or and and, of " + x, want, () -> ledger.balance(0, 0, false) - 1000);
            }
            int plus = many;
            int power = 1 << many;
            int quotient = 999999 >> many;
            Check.due(many + " times each sign", 31, () -> holding(
                    "7" + "+1".repeat(plus) + "=" + (7 + plus), "7" + "-1".repeat(plus) + "=" + (plus > 7 ? "-" : "") + Math.abs(7 - plus),
                    "1" + "*2".repeat(plus) + "=" + written(power), "999999" + "/2".repeat(plus) + "=" + quotient,
                    "9" + "-3+1".repeat(plus / 2) + "*5/5".repeat(plus / 3) + "=" + written(9 - plus / 2 * 2)));
        }
    }

    /** "-" value, for each value that there is. */
    private static void turnedRound() {
        SubLedger ledger = Check.taught("account a asset;account i income;post p{debit a x;rest i;}post q{"
                + "debit a -7;debit a -x;debit a -y;debit a -z;debit a -period;debit a -rate;debit a -of a;rest i;}"
                + "post r{debit a -(x+y);debit a -min(x,y);debit a -max(x,y);debit a --z;debit a z*-y;debit a z- -y;debit a -(-x);rest i;}");
        ledger.setRate(3, 90);
        ledger.post(0, 2, 11, 0, 0);
        ledger.post(1, 3, 20, 30, 40);
        ledger.post(2, 3, 20, 30, 40);
        int[] want = {-7, -20, -30, -40, -3, -90, -11, 201, -50, -20, -30, 40, -1200, 70, 20, 1170};
        for (int l = 0; l < want.length; l++) {
            int line = l + 2;
            Check.due("line " + line, want[l], () -> ledger.line(line, 2));
        }
    }

    /** As much as can wait for its right side at each of the eight depths. */
    private static void deepSums() {
        String sum = "1+2*".repeat(7).replace("*1", "*min(x,1") + "3" + ")".repeat(6);
        SubLedger ledger = Check.taught("account a asset;account i income;post p{debit a " + sum + ";rest i;}");
        ledger.post(0, 0, 100000, 0, 0);
        // 1 + 2 * 3 is 7, and each step outwards makes 1 + 2 * v of v.
        Check.due(sum, 511, () -> ledger.line(0, 2));
        String deepest = "1=0 or 1=1 and 1023=" + "1+2*max(x,".repeat(7) + "1+2*3" + ")".repeat(7);
        Check.due(deepest, 1, () -> holding(deepest));
        String inner = "1+2*min(9,1+2*3)=15";
        String test = inner;
        for (int n = 0; n < 6; n++) {
            test = "2=1 or 1=1 and [" + test + "]";
        }
        String whole = test;
        Check.due(whole, 1, () -> holding(whole));
        Check.due("not " + inner, 0, () -> holding("not " + inner));
    }

    private static String blanks(int many) {
        return " ".repeat(many);
    }

    /** "The tape is a row of at most 2000 bytes". */
    private static void fullTape() {
        String last = "account abcdefghij debt;";
        String text = A + blanks(2000 - A.length() - last.length()) + last;
        SubLedger ledger = new SubLedger();
        Check.feed(ledger, text);
        Check.due("a full tape", 2000, () -> ledger.count(7));
        Check.badState("feed when it is full", () -> ledger.feed(0, 0, 0, 0, 0));
        Check.badArgument("trim(2001)", () -> ledger.trim(2001));
        Check.due("trim(2000)", 2000, () -> ledger.trim(2000));
        Check.due("a text of 2000 bytes", 0, ledger::teach);
        Check.due("its last account", 1, () -> ledger.account(1, 0));
        Check.due("feed behind it", 20, () -> ledger.feed(0, 0, 0, 0, 0));
        wrong(1, 2000, text.substring(0, 1999) + " ");
        wrong(1, 1999, text.substring(0, 1999) + "#");
        wrong(1, 1990, A + blanks(1990 - A.length()) + "abcdefghij");
        wrong(1, 2000, blanks(2000 - 18) + "account abcdefghij");
        wrong(1, 2000 - 11, blanks(2000 - 19) + "account abcdefghijk");
        wrong(1, 2000, A + blanks(2000 - A.length() - 21) + "post p{debit a 123456");
        wrong(1, 1993, A + blanks(2000 - A.length() - 22) + "post p{debit a 1234567");
        wrong(1, 2000, A + blanks(2000 - A.length() - 23) + "post p{debit a 1when 1<");
    }

    /** "Shortens the tape to its first bytes": what stood behind them is not read. */
    private static void behindTheTape() {
        String[] marked = {"account abcdefghij^k asset;", "account a asset^s", "account a asset;^#", "account a asset; ^debt",
            A + "post p{debit a 123456^7;}", A + "post p{debit a x when x<^=1;}", "^account", A + "post a{rest a;}^}"};
        int[] errors = {1, 1, 0, 0, 1, 1, 0, 0};
        for (int i = 0; i < marked.length; i++) {
            SubLedger ledger = new SubLedger();
            int place = marked[i].indexOf('^');
            int error = errors[i];
            Check.feed(ledger, marked[i].replace("^", ""));
            Check.due("trim to " + marked[i], place, () -> ledger.trim(place));
            Check.due("error behind trim to " + marked[i], error, ledger::teach);
            Check.due("place behind trim to " + marked[i], error == 0 ? -1 : place, ledger::errorAt);
        }
        SubLedger again = new SubLedger();
        Check.feed(again, "account a asset;####");
        again.trim(16);
        Check.feed(again, "account b cost;");
        Check.due("fed behind what is kept", 0, again::teach);
        Check.due("accounts", 2, () -> again.count(0));
    }

    /** "it is empty behind it", whether the text had an error or not; a refused one stays. */
    private static void tapeBehindTeach() {
        SubLedger ledger = Check.taught(A);
        Check.due("trim behind teach", IllegalArgumentException.class, () -> ledger.trim(1));
        Check.due("error", 1, () -> Check.teach(ledger, "account b"));
        Check.due("trim behind an error", IllegalArgumentException.class, () -> ledger.trim(1));
        Check.due("fed behind an error", 20, () -> ledger.feed(0x20202020, 0x20202020, 0x20202020, 0x20202020, 0x20202020));
        Check.feed(ledger, A);
        ledger.close(0);
        Check.badState("teach with a closed period", ledger::teach);
        Check.due("tape behind a refused teach", 36, () -> ledger.count(7));
        ledger.reopen(0);
        Check.due("the same tape", 0, ledger::teach);
        Check.due("error of the tape that was kept", -1, ledger::errorAt);
    }

    /** "a byte with which no token begins", of all 256 bytes; blanks and line ends alone stand between tokens. */
    private static void everyByte() {
        for (int value = 0; value < 256; value++) {
            char one = (char) value;
            boolean isGap = value == 32 || value == 10;
            boolean isInWord = one >= 'a' && one <= 'z' || one >= '0' && one <= '9';
            wrong(isGap ? 0 : 1, isGap ? -1 : 0, "" + one);
            wrong(isGap ? 0 : 1, isGap ? -1 : isInWord ? 10 : one == ';' ? 16 : 15, "account a asset" + one + ";");
            wrong(isGap ? 0 : 1, isGap ? -1 : isInWord ? 0 : 7, "account" + one + "a asset;");
        }
        SubLedger ledger = new SubLedger();
        ledger.feed(0x20202020, 0x200aff20, 0, 0, 0);
        Check.due("bytes above 127", 1, ledger::teach);
        Check.due("place of a byte above 127", 6, ledger::errorAt);
    }

    /** "have to stand between two tokens that would otherwise be read as one", and only there. */
    private static void blanks() {
        right("account a asset;account b debt items foreign;post p{debit a(1)+-(x)*y/min(1,z)when[x<=1]or not[y>=2];rest b;}");
        right("\n account \n\na\n asset\n;\n\npost \n p \n { \n debit \n a \n ( \n 1 \n ) \n ; \n } \n");
        right(A + "post p{debit a 1when 1<2and 2<3or 3<4;}");
        wrong(1, "^accounta asset;");
        wrong(1, "account a ^assetitems;");
        wrong(1, A + "post p{debit a ^xwhen x<1;}");
        wrong(1, A + "post p{debit a x ^whenx<1;}");
        wrong(1, A + "post p{debit a x when ^notx<1;}");
        wrong(1, A + "post p{debit a ^ofa;}");
        wrong(1, A + "post p{debit a 12 ^34;}");
        wrong(1, A + "post p{debit a x when x> ^=1;}");
    }

    /** "All other words are names": no keyword is one, and what only begins or ends like one is one. */
    private static void keywords() {
        for (String word : KEYWORDS) {
            wrong(1, "account ^" + word + " asset;");
            wrong(1, A + "post ^" + word + "{rest a;}");
            wrong(1, A + "post p{debit ^" + word + " x;}");
            wrong(1, A + "post p{rest ^" + word + ";}");
            wrong(1, A + "post p{debit a of ^" + word + ";}");
            for (String name : new String[] {word + "0", word + "q", "q" + word, word.substring(1) + "q"}) {
                right("account " + name + " asset;post " + name + "{debit " + name + " of " + name + ";rest " + name + ";}");
            }
        }
    }

    /** "a letter a to z, followed by letters a to z and digits, at most 10 bytes". */
    private static void words() {
        for (int length = 1; length <= 10; length++) {
            right("account " + "q".repeat(length) + " asset;");
            right("account q" + "9".repeat(length - 1) + " asset;");
        }
        for (int length = 11; length <= 400; length += 97) {
            wrong(1, "account ^" + "q".repeat(length) + " asset;");
            wrong(1, "account ^q" + "9".repeat(length - 1) + " asset;");
            wrong(1, "account q ^asset" + "s".repeat(length - 5) + ";");
        }
        for (char one = 'a'; one <= 'z'; one++) {
            right("account " + one + "q1 asset;account q2" + one + " debt;");
        }
        for (char digit = '0'; digit <= '9'; digit++) {
            right("account q" + digit + " asset;");
            wrong(1, "account ^" + digit + "q asset;");
        }
    }

    /** "1 to 6 digits". */
    private static void numbers() {
        for (int length = 1; length <= 6; length++) {
            right(A + "post p{debit a " + "9".repeat(length) + ";}");
            right(A + "post p{debit a " + "0".repeat(length) + ";}");
        }
        for (int length = 7; length <= 400; length += 97) {
            wrong(1, A + "post p{debit a ^" + "9".repeat(length) + ";}");
            wrong(1, A + "post p{debit a ^" + "0".repeat(length) + ";}");
        }
        Check.due("the least and the greatest number", 7, () -> holding("000000=0", "999999=999*1001", "000123=123"));
    }

    /** "the end of the tape (at its length)": each text that breaks off has its error there, and no earlier. */
    private static void endOfTape() {
        String text = "account a asset items foreign ; account b debt ; post p { debit a x + of b * min ( 1 , - ( 2 ) ) "
                + "when not [ x < 1 or y >= 2 and z = 3 ] ; credit b period / rate ; rest a ; } account c cost ;";
        for (int length = 0; length <= text.length(); length++) {
            String part = text.substring(0, length);
            boolean isWhole = part.isBlank() || part.trim().endsWith("}")
                    || part.trim().endsWith(";") && !part.substring(part.lastIndexOf('}') + 1).contains("{");
            if (length == text.length() || text.charAt(length) == ' ') {
                wrong(isWhole ? 0 : 1, isWhole ? -1 : length, part);
                wrong(isWhole ? 0 : 1, isWhole ? -1 : length + 3, part + " \n ");
            }
        }
    }

    /** What has to stand at a place, and does not, though what follows would do further on. */
    private static void wrongHeads() {
        wrong(1, "account a ^account b asset;");
        wrong(1, "account a ^post p{rest a;}");
        wrong(1, "account a^");
        wrong(1, "account ^account a asset;");
        wrong(1, "account a asset ^account b asset;");
        wrong(1, "account a asset ^asset;");
        wrong(1, "account a asset foreign ^foreign;");
        wrong(1, A + "post p{debit ^debit a x;}");
        wrong(1, A + "post p{debit ^rest a;}");
        wrong(1, A + "post p{rest ^rest a;}");
        wrong(1, A + "post p{debit^}");
        wrong(1, A + "post p{debit a ^debit a x;}");
        wrong(1, A + "post p{debit a x ^debit a x;}");
        wrong(1, A + "post p{rest a ^rest a;}");
        wrong(1, A + "post p{rest a;^post q{rest a;}");
        wrong(1, A + "post p{rest a;^account b asset;");
        wrong(1, A + "post p{^{rest a;}}");
        wrong(1, A + "post ^post p{rest a;}");
        wrong(1, A + "post p{debit a x when x<1 ^when y<1;}");
        wrong(1, A + "post p{debit a x when not ^;}");
        wrong(1, A + "post p{debit a x when [^];}");
        wrong(1, A + "post p{debit a (^);}");
        wrong(1, A + "post p{debit a min(^,1);}");
        wrong(1, A + "post p{debit a min(1,^);}");
        wrong(1, A + "post p{debit a min ^1,2;}");
        wrong(1, A + "post p{debit a ^*x;}");
        wrong(1, A + "post p{debit a ^/x;}");
        wrong(1, A + "post p{debit a ^+x;}");
        wrong(1, A + "post p{debit a x^);}");
        wrong(1, A + "post p{debit a x when [x<1]^];}");
        wrong(1, A + "post p{debit a x when [x<1^)];}");
        wrong(1, A + "post p{debit a (x^];}");
    }

    private static String nested(String[] open, String inner) {
        StringBuilder text = new StringBuilder();
        String end = "";
        for (String one : open) {
            text.append(one);
            end = (one.equals("[") ? "]" : one.startsWith("max") ? ",1)" : one.endsWith("(") || one.endsWith(",") ? ")" : "")
                    + end;
        }
        return text + inner + end;
    }

    /** "Depth ... may be at most 8": the braces and seven more of any kinds, and the eighth one is refused. */
    private static void mixedDepth() {
        String[] ofTests = {"[", "not "};
        String[] ofSums = {"(", "-", "min(1,", "max("};
        for (int seed = 1; seed <= 600; seed++) {
            Dice dice = new Dice(seed);
            int tests = dice.below(9);
            String[] open = new String[8];
            for (int i = 0; i < 8; i++) {
                open[i] = i < tests ? dice.oneOf(ofTests) : dice.oneOf(ofSums);
            }
            String seven = head(open, 7, tests);
            right(A + seven);
            String eight = A + head(open, 8, tests);
            String last = open[7].replace("min(1,", "min(");
            int place = place(open, 7) + (last.startsWith("m") ? 3 : 0);
            wrong(1, A.length() + HEAD.length() + place, eight);
        }
    }

    private static final String HEAD = "post p{debit a x when ";

    private static int place(String[] open, int many) {
        int sum = 0;
        for (int i = 0; i < many; i++) {
            sum += open[i].length();
        }
        return sum;
    }

    /** A template with so many of them, those of tests around a comparison, those of sums in its left sum. */
    private static String head(String[] open, int many, int tests) {
        String[] outer = java.util.Arrays.copyOf(open, Math.min(many, tests));
        String[] inner = java.util.Arrays.copyOfRange(open, Math.min(many, tests), many);
        return HEAD + nested(outer, nested(inner, "x") + "<1") + ";}";
    }

    /** "1 greater between": behind its end the depth is what it was. */
    private static void depthFallsBack() {
        String[] values = {"(((((((x)))))))", "-------x", "min(1,max(1,min(1,-(-(x)))))", "-(-(-(x)))", "max(((((((x)))))),1)"};
        for (String one : values) {
            for (String other : values) {
                right(A + "post p{debit a " + one + "+" + other + "*" + one + ";credit a " + other + " when " + one + "<" + other
                        + " and " + other + "=" + one + " or not -" + "x<(1);}");
            }
        }
        right(A + "post p{debit a x when [[[[[[[x<1]]]]]]] and not not not not not not not x<1 or [[[[[[-x<1]]]]]];}");
        right(A + "post p{debit a -(((((x+1)*2)-3)))+((((((x))))));}post q{debit a (((((((x)))))));}");
        wrong(1, A + "post p{debit a (((((((x)))))))+(((((((^(x))))))));}");
        wrong(1, A + "post p{debit a min((((((x))))),((((((^-(x))))))));}");
        wrong(1, A + "post p{debit a x when not x<1 and not not not not not not not x<^(1);}");
    }

    /** "the token that would be the 401st (the end of the tape not counted)". */
    private static void lastTokens() {
        // Four tokens an account: the rest is one template of the wanted length, 8 tokens and two for each +x.
        String sum = "+x".repeat(194);
        right(A + "post p{debit a x" + sum + ";}\n\n");
        wrong(1, A + "post p{debit a x" + sum + ";}^;");
        wrong(1, A + "post p{debit a x" + sum + ";}^1234567");
        wrong(1, A + "post p{debit a x" + sum + ";}  ^abcdefghijk");
        wrong(1, A + "post p{debit a x" + sum + ";}^account");
        wrong(1, A + "post p{debit a -x" + sum + ";^}");
        wrong(1, A + "post p{debit a -x" + sum + ";^");
        wrong(1, A + "post p{debit a -x" + sum + "^}");
        wrong(1, A + "post p{debit a x" + sum + "+^;}");
        // An error 1 ahead of the 401st token is told there, and an error 3 ahead of it is not told.
        wrong(1, A + "post p{debit a x;}^;" + " x".repeat(400));
        wrong(1, A + "post p{debit b x" + sum + ";}^post");
        wrong(3, A + "post p{debit ^b x" + sum + ";}");
        wrong(1, "^" + ";".repeat(2000));
    }

    private static final String[] SPOILT = {"account ^a debt;", "post pa{rest ^n;}", "post pb{credit a of ^n;}",
        "post pc{" + "debit a x;".repeat(8) + "^debit a x;}", "post pd{rest a;^rest a;}", "account c income ^foreign;",
        "post t{rest a;}post ^t{rest a;}"};
    private static final int[] ERRORS = {2, 3, 3, 4, 5, 6, 2};

    /** "Only if there is no error 1, names and keywords are looked at". */
    private static void errorOneIsFirst() {
        for (String one : SPOILT) {
            String text = one.replace("^", "");
            wrong(1, A + text + "^;");
            wrong(1, A + text + "account^");
            wrong(1, A + text + "account q ^q;");
        }
    }

    /** "and the first error is told, at its token". */
    private static void leftmostError() {
        for (int i = 0; i < SPOILT.length; i++) {
            wrong(ERRORS[i], A + SPOILT[i]);
            for (int k = 0; k < SPOILT.length; k++) {
                if (i != k) {
                    wrong(ERRORS[i], A + SPOILT[i] + SPOILT[k].replace("^", ""));
                }
            }
        }
        wrong(3, A + "post p{debit ^n of m;rest a;rest a;}");
        wrong(5, A + "post p{rest a;^rest n;}");
        wrong(2, A + "account ^a cost foreign;");
        wrong(6, "account c cost items ^foreign;account c cost;");
        wrong(3, "post p{rest ^p;}account p asset;");
    }

    /** "Accounts and templates have names of their own". */
    private static void namesOfTheirOwn() {
        right(A + "post b{rest a;}account b cost;post a{rest b;}");
        wrong(2, A + "post b{rest a;}account b cost;account ^b cost;");
        wrong(2, A + "post b{rest a;}account b cost;post ^b{rest b;}");
        wrong(3, A + "post b{rest a;}post q{rest ^b;}");
        wrong(3, A + "post b{rest a;}post q{debit ^b 1;}");
        wrong(3, A + "post b{rest a;}post q{credit ^b 1;}");
        wrong(3, A + "post b{rest a;}post q{debit a of ^b;}");
        wrong(3, A + "post b{rest a;}post q{debit a 1 when 1<of ^b;}");
        wrong(3, A + "post b{credit a of ^b;}");
        SubLedger ledger = Check.taught("account a asset;account b income;post b{debit a x;rest b;}post a{debit a y;rest b;}");
        ledger.post(0, 0, 5, 7, 0);
        ledger.post(1, 0, 5, 7, 0);
        ledger.state(0);
        Check.due("the names of the templates", "0 b 5\n0 a 7\n", () -> Check.paper(ledger));
    }

    private static String many(String before, int from, int to, String behind) {
        StringBuilder text = new StringBuilder();
        for (int i = from; i <= to; i++) {
            text.append(before).append(i).append(behind);
        }
        return text.toString();
    }

    /** "of errors at one token the one with the smallest number", and the counts of error 4. */
    private static void smallestError() {
        String accounts = many("account a", 1, 16, " asset;");
        String posts = many("post p", 1, 10, "{rest a;}");
        right(accounts + "post p{rest a16;}");
        wrong(4, accounts + "account ^a0 asset;");
        wrong(4, accounts + "post p{rest a1;}account ^a17 asset;");
        for (int i = 1; i <= 16; i++) {
            wrong(2, accounts + "account ^a" + i + " income foreign;");
        }
        right(A + posts + "account b asset;");
        wrong(4, A + posts + "post ^p0{rest a;}");
        wrong(4, A + posts + "account b asset;post ^a{rest n;}");
        for (int i = 1; i <= 10; i++) {
            wrong(2, A + posts + "post ^p" + i + "{rest n;}");
        }
        String[] lines = {"debit a x;", "credit a x;"};
        for (String one : lines) {
            right(A + "post p{" + one.repeat(8) + "}");
            right(A + "post p{" + one.repeat(7) + "rest a;}");
            wrong(4, A + "post p{" + one.repeat(8) + "^" + one + "}");
            wrong(4, A + "post p{rest a;" + one.repeat(7) + "^" + one + "}");
            wrong(4, A + "post p{rest a;" + one.repeat(7) + "^rest a;}");
            wrong(5, A + "post p{rest a;" + one.repeat(6) + "^rest a;}");
            wrong(4, A + "post p{" + one.repeat(8) + "^rest n;}");
            right(A + many("post p", 1, 3, "{" + one.repeat(8) + "}"));
        }
    }

    /** "If it has an error, all stays (but the tape is empty)". */
    private static void wrongTextsChangeNothing() {
        SubLedger ledger = Check.taught("account a asset;account i income;post p{debit a x;rest i;}post q{debit a y;rest i;}");
        ledger.setRate(4, 150);
        long before = ledger.digest();
        for (int i = 0; i < SPOILT.length; i++) {
            int error = ERRORS[i];
            String text = A + SPOILT[i].replace("^", "");
            Check.due("error", error, () -> Check.teach(ledger, text));
            Check.due("all stays behind " + text, before, ledger::digest);
        }
        Check.due("error 1", 1, () -> Check.teach(ledger, "account b cost;account c cost;post t{"));
        Check.due("all stays behind error 1", before, ledger::digest);
        Check.due("the templates stay", 0, () -> ledger.post(1, 0, 5, 8, 0));
        Check.due("the accounts stay", 8, () -> ledger.balance(0, 0, false));
    }

    /** "they are numbered from 0 in the order in which they stand". */
    private static void numbersOfNames() {
        SubLedger ledger = new SubLedger();
        Check.feed(ledger, "account a0 asset;account a1 debt;account a2 equity;post t0{debit a0 1;rest a1;}account a3 income;"
                + "account a4 cost;post t1{debit a4 2;rest a3;}post t2{debit a2 3;rest a0;}" + many("account a", 5, 15, " cost;")
                + many("post t", 3, 9, "{debit a15 7;rest a14;}"));
        Check.due("16 accounts and 10 templates", 0, ledger::teach);
        Check.due("accounts", 16, () -> ledger.count(0));
        Check.due("templates", 10, () -> ledger.count(1));
        for (int a = 0; a < 16; a++) {
            int number = a;
            Check.due("kind of a" + a, Math.min(a, 4), () -> ledger.account(number, 0));
        }
        Check.outOfBounds("account 16", () -> ledger.account(16, 0));
        Check.outOfBounds("template 10", () -> ledger.post(10, 0, 0, 0, 0));
        int[][] accounts = {{0, 1}, {4, 3}, {2, 0}, {15, 14}};
        int[] templates = {0, 1, 2, 9};
        for (int n = 0; n < 4; n++) {
            int number = n;
            Check.due("template " + templates[n], n, () -> ledger.post(templates[number], 0, 0, 0, 0));
            Check.due("its debit", accounts[n][0], () -> ledger.line(2 * number, 1));
            Check.due("its rest", accounts[n][1], () -> ledger.line(2 * number + 1, 1));
        }
    }

    /** "if what is not 0 to 8", "if there is no such account, or what is not 0 to 5". */
    private static void toldNumbers() {
        SubLedger ledger = Check.taught(A);
        for (int wrong : new int[] {-1, Integer.MIN_VALUE, 9, Integer.MAX_VALUE}) {
            Check.outOfBounds("count(" + wrong + ")", () -> ledger.count(wrong));
            Check.outOfBounds("account(0, " + wrong + ")", () -> ledger.account(0, wrong));
            Check.outOfBounds("account(" + wrong + ", 0)", () -> ledger.account(wrong, 0));
            Check.badArgument("trim(" + wrong + ")", () -> ledger.trim(wrong));
        }
        Check.outOfBounds("account(0, 6)", () -> ledger.account(0, 6));
        Check.outOfBounds("account(1, 0)", () -> ledger.account(1, 0));
        Check.outOfBounds("account of no accounts", () -> new SubLedger().account(0, 0));
        Check.due("account(0, 5)", 0, () -> ledger.account(0, 5));
        Check.due("count(8)", 0, () -> ledger.count(8));
    }
}
