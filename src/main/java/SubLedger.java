import java.util.ArrayList;

/** A subledger: told accounts and templates, entries, allocations, closings, statements. */
public final class SubLedger {
    private static final int PERIODS = 12;
    private static final int MAX_RATE = 200;
    private static final int MAX_INPUT = 100000;
    private static final int MAX_GOAL = 1000000;
    private static final int LAST_TRIED = 200;
    private static final int FEED_BYTES = 20;
    // The longest line a statement can have, "11 revaluation -2147483648 -1000000" and its end, has 36 bytes.
    private static final int MAX_PAPER = 36 * Book.MAX_LINES;
    private static final long HIGHEST_POWER = 1000000000L;

    private final Tape tape;
    private final Book book;
    // One row for all statements: what a run makes is counted, and each of its calls can write a long one.
    private final byte[] paper;
    private int paperLength;
    private ArrayList<Account> accounts;
    private ArrayList<Template> templates;
    private int errorPlace;

    public SubLedger() {
        tape = new Tape();
        book = new Book();
        paper = new byte[MAX_PAPER];
        accounts = new ArrayList<Account>();
        templates = new ArrayList<Template>();
        errorPlace = -1;
    }

    // ---- the language

    public int feed(int a, int b, int c, int d, int e) throws IllegalStateException {
        if (!tape.hasRoom(FEED_BYTES)) {
            throw new IllegalStateException("the tape would be too long");
        }
        tape.appendNumber(a);
        tape.appendNumber(b);
        tape.appendNumber(c);
        tape.appendNumber(d);
        tape.appendNumber(e);
        return tape.length;
    }

    public int trim(int n) throws IllegalArgumentException {
        if (n < 0 || n > tape.length) {
            throw new IllegalArgumentException("the tape has not so many bytes");
        }
        tape.cutTo(n);
        return n;
    }

    public int teach() throws IllegalStateException {
        if (!book.entries.isEmpty() || book.closed > 0) {
            throw new IllegalStateException("there are entries, or a period is closed");
        }
        Parser parser = new Parser(tape.firstToken());
        parser.read();
        tape.cutTo(0);
        errorPlace = parser.errorPlace;
        if (parser.error == 0) {
            accounts = parser.accounts;
            templates = parser.templates;
        }
        return parser.error;
    }

    public int errorAt() {
        return errorPlace;
    }

    public int count(int what) throws IndexOutOfBoundsException {
        checkWhat(what, 8);
        switch (what) {
            case 0: return accounts.size();
            case 1: return templates.size();
            case 2: return book.entries.size();
            case 3: return book.voidEntries();
            case 4: return book.lines.size();
            case 5: return book.allocations.size();
            case 6: return book.closed;
            case 7: return tape.length;
            default: return paperLength;
        }
    }

    public int account(int account, int what) throws IndexOutOfBoundsException {
        Account asked = accountAt(account);
        checkWhat(what, 5);
        switch (what) {
            case 0: return asked.kind;
            case 1: return asked.hasItems ? 1 : 0;
            case 2: return asked.isForeign ? 1 : 0;
            case 3: return book.linesOf(asked);
            case 4: return book.openOf(asked, true, 0, PERIODS - 1);
            default: return book.openOf(asked, false, 0, PERIODS - 1);
        }
    }

    // ---- entries

    public int setRate(int period, int rate)
            throws IndexOutOfBoundsException, IllegalArgumentException, IllegalStateException {
        checkPeriod(period);
        if (rate < 1 || rate > MAX_RATE) {
            throw new IllegalArgumentException("no such rate");
        }
        if (book.isClosed(period)) {
            throw new IllegalStateException("the period is closed");
        }
        return book.changeRate(period, rate);
    }

    public int post(int template, int period, int x, int y, int z)
            throws IndexOutOfBoundsException, IllegalArgumentException, IllegalStateException {
        Template used = templateAt(template);
        checkPeriod(period);
        checkInputs(x, y, z);
        if (!book.draftPosting(used, period, x, y, z)) {
            throw new IllegalStateException("it cannot be posted");
        }
        return book.enterPosting(used, period);
    }

    public int reverse(int entry, int period) throws IndexOutOfBoundsException, IllegalStateException {
        Entry reversed = entryAt(entry);
        checkPeriod(period);
        if (book.isClosed(period) || !book.canReverse(reversed)) {
            throw new IllegalStateException("it cannot be reversed");
        }
        return book.enterReversal(reversed, period);
    }

    public int entry(int entry, int what) throws IndexOutOfBoundsException {
        Entry asked = entryAt(entry);
        checkWhat(what, 6);
        switch (what) {
            case 0: return asked.period;
            case 1: return asked.kind;
            case 2: return asked.source;
            case 3: return asked.firstLine;
            case 4: return asked.lineCount;
            case 5: return asked.isVoid ? 1 : 0;
            default: return asked.reversal;
        }
    }

    public int line(int line, int what) throws IndexOutOfBoundsException {
        Line asked = lineAt(line);
        checkWhat(what, 4);
        switch (what) {
            case 0: return asked.entry.number;
            case 1: return asked.account.number;
            case 2: return asked.amount;
            case 3: return asked.foreign;
            default: return asked.openAmount();
        }
    }

    public int balance(int account, int period, boolean isForeign) throws IndexOutOfBoundsException {
        Account asked = accountAt(account);
        checkPeriod(period);
        return isForeign ? asked.foreignUpTo(period) : asked.balanceUpTo(period);
    }

    public int trial(int kind, int period) throws IndexOutOfBoundsException {
        if (kind < Account.ASSET || kind > Account.COST) {
            throw new IndexOutOfBoundsException("no such kind");
        }
        checkPeriod(period);
        int sum = 0;
        for (int i = 0; i < accounts.size(); i++) {
            Account account = accounts.get(i);
            if (account.kind == kind) {
                sum += account.balanceUpTo(period);
            }
        }
        return sum;
    }

    // ---- allocation

    public int allocate(int a, int b, int amount)
            throws IndexOutOfBoundsException, IllegalArgumentException, IllegalStateException {
        Line one = lineAt(a);
        Line other = lineAt(b);
        if (amount < 1) {
            throw new IllegalArgumentException("the amount is less than 1");
        }
        if (!book.canAllocate(one, other, amount)) {
            throw new IllegalStateException("they cannot be allocated to each other so");
        }
        book.addAllocation(one, other, amount);
        return book.allocations.size();
    }

    public int match(int account) throws IndexOutOfBoundsException {
        return book.allocateFirstOnes(accountAt(account));
    }

    public int undo(int line) throws IndexOutOfBoundsException {
        return book.takeBack(lineAt(line));
    }

    public int owed(int account, int from, int to) throws IndexOutOfBoundsException {
        Account asked = accountAt(account);
        checkPeriod(from);
        checkPeriod(to);
        return book.openOf(asked, true, from, to) - book.openOf(asked, false, from, to);
    }

    public int exact(int line) throws IndexOutOfBoundsException {
        return book.fewestThatMakeUp(lineAt(line));
    }

    // ---- closing

    public int close(int period) throws IndexOutOfBoundsException, IllegalStateException {
        checkPeriod(period);
        if (period != book.closed || !book.draftClosing(period, accounts)) {
            throw new IllegalStateException("it is not the first open one, or there is no room");
        }
        return book.enterClosing(period, accounts);
    }

    public int reopen(int period) throws IndexOutOfBoundsException, IllegalStateException {
        checkPeriod(period);
        if (period != book.closed - 1) {
            throw new IllegalStateException("it is not the last closed one");
        }
        return book.openAgain(period);
    }

    public int period(int period, int what) throws IndexOutOfBoundsException {
        checkPeriod(period);
        checkWhat(what, 3);
        switch (what) {
            case 0: return book.rateOf(period);
            case 1: return book.isClosed(period) ? 1 : 0;
            case 2: return book.entriesOf(period);
            default: return book.timesClosed(period);
        }
    }

    public int restated(int account, int period) throws IndexOutOfBoundsException {
        Account asked = accountAt(account);
        checkPeriod(period);
        return book.timesClosed(period) > 0 ? asked.changeSinceKept(period) : 0;
    }

    // ---- what would be

    public int would(int template, int period, int x, int y, int z, int account)
            throws IndexOutOfBoundsException, IllegalArgumentException {
        Template used = templateAt(template);
        Account asked = accountAt(account);
        checkPeriod(period);
        checkInputs(x, y, z);
        int balance = asked.balanceUpTo(period);
        if (!book.draftPosting(used, period, x, y, z)) {
            return balance;
        }
        return balance + book.draft.amountOn(asked);
    }

    public int solve(int template, int period, int account, int goal)
            throws IndexOutOfBoundsException, IllegalArgumentException {
        Template used = templateAt(template);
        Account asked = accountAt(account);
        checkPeriod(period);
        if (goal < -MAX_GOAL || goal > MAX_GOAL) {
            throw new IllegalArgumentException("no such goal");
        }
        long missing = (long) goal - asked.balanceUpTo(period);
        int best = -1;
        long nearest = 0;
        for (int x = 0; x <= LAST_TRIED; x++) {
            if (book.draftPosting(used, period, x, 0, 0)) {
                long distance = Math.abs(missing - book.draft.amountOn(asked));
                if (best < 0 || distance < nearest) {
                    nearest = distance;
                    best = x;
                }
            }
        }
        return best;
    }

    // ---- statements

    public int state(int account) throws IndexOutOfBoundsException {
        Account asked = accountAt(account);
        paperLength = 0;
        for (int i = 0; i < book.lines.size(); i++) {
            Line line = book.lines.get(i);
            if (line.account == asked && !line.entry.isVoid) {
                writeLine(line);
            }
        }
        return paperLength;
    }

    public int byteAt(int index) throws IndexOutOfBoundsException {
        if (index < 0 || index >= paperLength || index >= paper.length) {
            throw new IndexOutOfBoundsException("no such place on the paper");
        }
        return paper[index];
    }

    public double cleared() {
        long allocated = book.allAllocated();
        long whole = book.allAllocatable();
        return whole == 0 ? 0.0 : (double) allocated / (double) whole;
    }

    public long digest() {
        long d = 643;
        for (int what = 0; what <= 8; what++) {
            d = d * 31 + count(what);
        }
        for (int i = 0; i < accounts.size(); i++) {
            d = digestAccount(d, i);
        }
        for (int i = 0; i < book.entries.size(); i++) {
            for (int what = 0; what <= 6; what++) {
                d = d * 31 + entry(i, what);
            }
        }
        for (int i = 0; i < book.lines.size(); i++) {
            for (int what = 0; what <= 4; what++) {
                d = d * 31 + line(i, what);
            }
        }
        for (int i = 0; i < PERIODS; i++) {
            for (int what = 0; what <= 3; what++) {
                d = d * 31 + period(i, what);
            }
        }
        for (int i = 0; i < paperLength && i < paper.length; i++) {
            d = d * 31 + paper[i];
        }
        return d;
    }

    private long digestAccount(long before, int account) {
        long d = before;
        for (int what = 0; what <= 5; what++) {
            d = d * 31 + account(account, what);
        }
        for (int period = 0; period < PERIODS; period++) {
            d = d * 31 + balance(account, period, false);
            d = d * 31 + balance(account, period, true);
            d = d * 31 + restated(account, period);
        }
        return d;
    }

    private void writeLine(Line line) {
        writeNumber(line.entry.period);
        writeByte(' ');
        writeText(line.entry.word);
        writeByte(' ');
        writeNumber(line.amount);
        if (line.account.isForeign) {
            writeByte(' ');
            writeNumber(line.foreign);
        }
        writeByte('\n');
    }

    private void writeText(String text) {
        for (int i = 0; i < text.length(); i++) {
            writeByte(text.charAt(i));
        }
    }

    private void writeNumber(int number) {
        if (number < 0) {
            writeByte('-');
        }
        long size = Math.abs((long) number);
        for (long power = HIGHEST_POWER; power > 0; power /= 10) {
            if (size >= power || power == 1) {
                writeByte((int) ('0' + size / power % 10));
            }
        }
    }

    private void writeByte(int value) {
        if (paperLength >= 0 && paperLength < paper.length) {
            paper[paperLength] = (byte) value;
            paperLength++;
        }
    }

    private Account accountAt(int account) {
        if (account < 0 || account >= accounts.size()) {
            throw new IndexOutOfBoundsException("no such account");
        }
        return accounts.get(account);
    }

    private Template templateAt(int template) {
        if (template < 0 || template >= templates.size()) {
            throw new IndexOutOfBoundsException("no such template");
        }
        return templates.get(template);
    }

    private Entry entryAt(int entry) {
        if (entry < 0 || entry >= book.entries.size()) {
            throw new IndexOutOfBoundsException("no such entry");
        }
        return book.entries.get(entry);
    }

    private Line lineAt(int line) {
        if (line < 0 || line >= book.lines.size()) {
            throw new IndexOutOfBoundsException("no such line");
        }
        return book.lines.get(line);
    }

    private static boolean isPeriod(int period) {
        return period >= 0 && period < PERIODS;
    }

    private static void checkPeriod(int period) {
        if (!isPeriod(period)) {
            throw new IndexOutOfBoundsException("no such period");
        }
    }

    private static void checkWhat(int what, int last) {
        if (what < 0 || what > last) {
            throw new IndexOutOfBoundsException("nothing has this number");
        }
    }

    private static void checkInputs(int x, int y, int z) {
        if (!isInput(x) || !isInput(y) || !isInput(z)) {
            throw new IllegalArgumentException("x, y or z is out of its range");
        }
    }

    private static boolean isInput(int value) {
        return value >= -MAX_INPUT && value <= MAX_INPUT;
    }

    /** The kinds of tokens; those with a text are always spelt so. */
    private enum Sign {
        ACCOUNT("account"), ASSET("asset"), DEBT("debt"), EQUITY("equity"), INCOME("income"), COST("cost"),
        ITEMS("items"), FOREIGN("foreign"), POST("post"), DEBIT("debit"), CREDIT("credit"), REST("rest"),
        WHEN("when"), OF("of"), AND("and"), OR("or"), NOT("not"), MIN("min"), MAX("max"),
        X("x"), Y("y"), Z("z"), PERIOD("period"), RATE("rate"),
        LEFT_BRACE("{"), RIGHT_BRACE("}"), LEFT_ROUND("("), RIGHT_ROUND(")"), LEFT_SQUARE("["), RIGHT_SQUARE("]"),
        SEMICOLON(";"), COMMA(","), PLUS("+"), MINUS("-"), TIMES("*"), OVER("/"),
        LESS("<"), MORE(">"), EQUAL("="), AT_MOST("<="), AT_LEAST(">="),
        NAME(""), NUMBER(""), TURN(""), END(""), BAD("");

        private static final Sign[] ALL = values();

        private final String text;

        Sign(String text) {
            this.text = text;
        }
    }

    /** A token of the tape; also a step of a template, behind the steps that it works on. */
    private static final class Token {
        private final Sign sign;
        private final int start;
        private final int end;
        private int number;
        private String name;
        private Account account;
        private Token following;

        Token(Sign sign, int start, int end) {
            this.sign = sign;
            this.start = start;
            this.end = end;
            name = "";
        }

        /** Whether another token can stand behind it. */
        boolean isProper() {
            return sign != Sign.END && sign != Sign.BAD;
        }
    }

    /** The bytes that are fed, and the tokens that they are read as. */
    private static final class Tape {
        private static final int MAX_BYTES = 2000;
        private static final int MAX_TOKENS = 400;
        private static final int MAX_WORD = 10;
        private static final int MAX_DIGITS = 6;

        private final byte[] bytes = new byte[MAX_BYTES];
        private int length;

        boolean hasRoom(int more) {
            return more <= MAX_BYTES - length;
        }

        void appendNumber(int number) {
            for (int shift = 24; shift >= 0; shift -= 8) {
                if (length >= 0 && length < bytes.length) {
                    bytes[length] = (byte) (number >> shift);
                    length++;
                }
            }
        }

        void cutTo(int n) {
            if (n >= 0 && n <= length) {
                length = n;
            }
        }

        /** The chain of all tokens, with an END or a BAD one as its last. */
        Token firstToken() {
            Token first = tokenFrom(0);
            Token last = first;
            for (int n = 1; n < MAX_TOKENS && last.isProper(); n++) {
                last.following = tokenFrom(last.end);
                last = last.following;
            }
            if (last.isProper()) {
                Token more = tokenFrom(last.end);
                last.following = more.isProper() ? bad(more.start) : more;
            }
            return first;
        }

        private Token tokenFrom(int from) {
            int start = from;
            while (start < length && isGap(byteOf(start))) {
                start++;
            }
            if (start >= length) {
                return new Token(Sign.END, length, length);
            }
            if (isLetter(byteOf(start))) {
                return wordFrom(start);
            }
            return isDigit(byteOf(start)) ? numberFrom(start) : symbolFrom(start);
        }

        private Token wordFrom(int start) {
            int end = start;
            while (end < length && (isLetter(byteOf(end)) || isDigit(byteOf(end)))) {
                end++;
            }
            if (end - start > MAX_WORD) {
                return bad(start);
            }
            Sign keyword = signSpelt(start, end);
            if (keyword != null) {
                return new Token(keyword, start, end);
            }
            Token token = new Token(Sign.NAME, start, end);
            token.name = textOf(start, end);
            return token;
        }

        private Token numberFrom(int start) {
            int end = start;
            int number = 0;
            while (end < length && isDigit(byteOf(end))) {
                number = number * 10 + byteOf(end) - '0';
                end++;
            }
            if (end - start > MAX_DIGITS) {
                return bad(start);
            }
            Token token = new Token(Sign.NUMBER, start, end);
            token.number = number;
            return token;
        }

        private Token symbolFrom(int start) {
            Sign two = signSpelt(start, start + 2);
            if (two != null) {
                return new Token(two, start, start + 2);
            }
            Sign one = signSpelt(start, start + 1);
            return one != null ? new Token(one, start, start + 1) : bad(start);
        }

        private static Token bad(int start) {
            return new Token(Sign.BAD, start, start);
        }

        /** The keyword or symbol of these bytes, null if they are none. */
        private Sign signSpelt(int start, int end) {
            for (int i = 0; i < Sign.ALL.length; i++) {
                if (spells(Sign.ALL[i].text, start, end)) {
                    return Sign.ALL[i];
                }
            }
            return null;
        }

        private boolean spells(String text, int start, int end) {
            if (text.length() != end - start) {
                return false;
            }
            for (int i = 0; i < text.length(); i++) {
                if (text.charAt(i) != byteOf(start + i)) {
                    return false;
                }
            }
            return true;
        }

        private String textOf(int start, int end) {
            StringBuilder text = new StringBuilder();
            for (int i = start; i < end; i++) {
                text.append((char) byteOf(i));
            }
            return text.toString();
        }

        /** The byte at a place, 0 to 255; -1 behind the end. */
        private int byteOf(int place) {
            return place >= 0 && place < length && place < bytes.length ? bytes[place] & 255 : -1;
        }

        private static boolean isGap(int value) {
            return value == ' ' || value == '\n';
        }

        private static boolean isLetter(int value) {
            return value >= 'a' && value <= 'z';
        }

        private static boolean isDigit(int value) {
            return value >= '0' && value <= '9';
        }
    }

    /** Reads a chain of tokens as a text. A reading method answers false at the token that cannot stand there. */
    private static final class Parser {
        private static final int MAX_DEPTH = 8;
        private static final int MAX_ACCOUNTS = 16;
        private static final int MAX_TEMPLATES = 10;
        private static final int MAX_LINES = 8;

        private final ArrayList<Account> accounts = new ArrayList<Account>();
        private final ArrayList<Template> templates = new ArrayList<Template>();
        private int error;
        private int errorPlace = -1;
        private Token next;
        private ArrayList<Token> steps = new ArrayList<Token>();

        Parser(Token first) {
            next = first;
        }

        void read() {
            boolean isRead = true;
            for (int n = 0; n < Tape.MAX_TOKENS && isRead && next.sign != Sign.END; n++) {
                isRead = next.sign == Sign.ACCOUNT ? readAccount() : readTemplate();
            }
            if (!isRead) {
                error = 1;
                errorPlace = next.start;
            }
        }

        private boolean readAccount() {
            if (!take(Sign.ACCOUNT) || next.sign != Sign.NAME) {
                return false;
            }
            Token name = advance();
            noteName(name, isAccount(name.name), accounts.size() >= MAX_ACCOUNTS);
            int kind = kindOf(next.sign);
            if (kind < 0) {
                return false;
            }
            advance();
            boolean hasItems = take(Sign.ITEMS);
            boolean isForeign = next.sign == Sign.FOREIGN;
            if (isForeign) {
                Token foreign = advance();
                if (kind == Account.INCOME || kind == Account.COST) {
                    note(6, foreign);
                }
            }
            if (accounts.size() < MAX_ACCOUNTS) {
                accounts.add(new Account(accounts.size(), name.name, kind, hasItems, isForeign));
            }
            return take(Sign.SEMICOLON);
        }

        private boolean readTemplate() {
            if (!take(Sign.POST) || next.sign != Sign.NAME) {
                return false;
            }
            Token name = advance();
            noteName(name, isTemplate(name.name), templates.size() >= MAX_TEMPLATES);
            Template template = new Template(templates.size(), name.name);
            steps = template.steps;
            boolean isRead = take(Sign.LEFT_BRACE) && readLine(template);
            for (int n = 0; n < Tape.MAX_TOKENS && isRead && next.sign != Sign.RIGHT_BRACE; n++) {
                isRead = readLine(template);
            }
            if (templates.size() < MAX_TEMPLATES) {
                templates.add(template);
            }
            return isRead && take(Sign.RIGHT_BRACE);
        }

        private boolean readLine(Template template) {
            boolean isRest = next.sign == Sign.REST;
            if (!isRest && next.sign != Sign.DEBIT && next.sign != Sign.CREDIT) {
                return false;
            }
            Token head = advance();
            noteLine(template, head, isRest);
            head.account = accountMeant();
            if (!take(Sign.NAME)) {
                return false;
            }
            if (isRest) {
                template.rest = head.account;
                return take(Sign.SEMICOLON);
            }
            boolean isRead = readSum(1);
            if (isRead && next.sign == Sign.WHEN) {
                Token when = advance();
                isRead = readTest(1);
                steps.add(when);
            }
            steps.add(head);
            return isRead && take(Sign.SEMICOLON);
        }

        private boolean readTest(int depth) {
            boolean isRead = readBoth(depth);
            for (int n = 0; n < Tape.MAX_TOKENS && isRead && next.sign == Sign.OR; n++) {
                Token or = advance();
                isRead = readBoth(depth);
                steps.add(or);
            }
            return isRead;
        }

        private boolean readBoth(int depth) {
            boolean isRead = readSingle(depth);
            for (int n = 0; n < Tape.MAX_TOKENS && isRead && next.sign == Sign.AND; n++) {
                Token and = advance();
                isRead = readSingle(depth);
                steps.add(and);
            }
            return isRead;
        }

        private boolean readSingle(int depth) {
            if (next.sign == Sign.LEFT_SQUARE) {
                return depth < MAX_DEPTH && take(Sign.LEFT_SQUARE) && readTest(depth + 1) && take(Sign.RIGHT_SQUARE);
            }
            if (next.sign == Sign.NOT) {
                return readNot(depth);
            }
            if (!readSum(depth) || !isComparison(next.sign)) {
                return false;
            }
            Token comparison = advance();
            boolean isRead = readSum(depth);
            steps.add(comparison);
            return isRead;
        }

        private boolean readNot(int depth) {
            if (depth >= MAX_DEPTH) {
                return false;
            }
            Token not = advance();
            boolean isRead = readSingle(depth + 1);
            steps.add(not);
            return isRead;
        }

        private boolean readSum(int depth) {
            boolean isRead = readProduct(depth);
            for (int n = 0; n < Tape.MAX_TOKENS && isRead && isPlusOrMinus(next.sign); n++) {
                Token sign = advance();
                isRead = readProduct(depth);
                steps.add(sign);
            }
            return isRead;
        }

        private boolean readProduct(int depth) {
            boolean isRead = readValue(depth);
            for (int n = 0; n < Tape.MAX_TOKENS && isRead && isTimesOrOver(next.sign); n++) {
                Token sign = advance();
                isRead = readValue(depth);
                steps.add(sign);
            }
            return isRead;
        }

        private boolean readValue(int depth) {
            switch (next.sign) {
                case NUMBER:
                case X:
                case Y:
                case Z:
                case PERIOD:
                case RATE:
                    steps.add(advance());
                    return true;
                case OF:
                    Token of = advance();
                    of.account = accountMeant();
                    steps.add(of);
                    return take(Sign.NAME);
                case MINUS:
                    return readTurned(depth);
                case LEFT_ROUND:
                    return depth < MAX_DEPTH && take(Sign.LEFT_ROUND) && readSum(depth + 1) && take(Sign.RIGHT_ROUND);
                case MIN:
                case MAX:
                    return readChoice(depth);
                default:
                    return false;
            }
        }

        private boolean readTurned(int depth) {
            if (depth >= MAX_DEPTH) {
                return false;
            }
            Token minus = advance();
            boolean isRead = readValue(depth + 1);
            steps.add(new Token(Sign.TURN, minus.start, minus.end));
            return isRead;
        }

        private boolean readChoice(int depth) {
            Token choice = advance();
            boolean isRead = depth < MAX_DEPTH && take(Sign.LEFT_ROUND) && readSum(depth + 1)
                    && take(Sign.COMMA) && readSum(depth + 1) && take(Sign.RIGHT_ROUND);
            steps.add(choice);
            return isRead;
        }

        private boolean take(Sign sign) {
            if (next.sign != sign) {
                return false;
            }
            advance();
            return true;
        }

        private Token advance() {
            Token taken = next;
            if (taken.following != null) {
                next = taken.following;
            }
            return taken;
        }

        private void noteName(Token name, boolean isTaken, boolean isTooMany) {
            if (isTaken) {
                note(2, name);
            } else if (isTooMany) {
                note(4, name);
            }
        }

        private void noteLine(Template template, Token head, boolean isRest) {
            template.lineCount++;
            if (template.lineCount > MAX_LINES) {
                note(4, head);
            } else if (isRest && template.rest != null) {
                note(5, head);
            }
        }

        /** Keeps the first of the errors 2 to 6; an error 1 behind it still comes ahead of it. */
        private void note(int number, Token token) {
            if (error == 0) {
                error = number;
                errorPlace = token.start;
            }
        }

        /** The account of the name that comes next. */
        private Account accountMeant() {
            for (int i = 0; i < accounts.size(); i++) {
                if (accounts.get(i).name.equals(next.name)) {
                    return accounts.get(i);
                }
            }
            note(3, next);
            return null;
        }

        private boolean isAccount(String name) {
            for (int i = 0; i < accounts.size(); i++) {
                if (accounts.get(i).name.equals(name)) {
                    return true;
                }
            }
            return false;
        }

        private boolean isTemplate(String name) {
            for (int i = 0; i < templates.size(); i++) {
                if (templates.get(i).name.equals(name)) {
                    return true;
                }
            }
            return false;
        }

        private static int kindOf(Sign sign) {
            switch (sign) {
                case ASSET: return Account.ASSET;
                case DEBT: return Account.DEBT;
                case EQUITY: return Account.EQUITY;
                case INCOME: return Account.INCOME;
                case COST: return Account.COST;
                default: return -1;
            }
        }

        private static boolean isComparison(Sign sign) {
            return sign == Sign.LESS || sign == Sign.MORE || sign == Sign.EQUAL
                    || sign == Sign.AT_MOST || sign == Sign.AT_LEAST;
        }

        private static boolean isPlusOrMinus(Sign sign) {
            return sign == Sign.PLUS || sign == Sign.MINUS;
        }

        private static boolean isTimesOrOver(Sign sign) {
            return sign == Sign.TIMES || sign == Sign.OVER;
        }
    }

    /** A told account, with its balances up to each period. */
    private static final class Account {
        private static final int ASSET = 0;
        private static final int DEBT = 1;
        private static final int EQUITY = 2;
        private static final int INCOME = 3;
        private static final int COST = 4;

        private final int number;
        private final String name;
        private final int kind;
        private final boolean hasItems;
        private final boolean isForeign;
        private final int[] balances = new int[PERIODS];
        private final int[] foreignBalances = new int[PERIODS];
        private final int[] kept = new int[PERIODS];

        Account(int number, String name, int kind, boolean hasItems, boolean isForeign) {
            this.number = number;
            this.name = name;
            this.kind = kind;
            this.hasItems = hasItems;
            this.isForeign = isForeign;
        }

        void add(int period, int amount, int foreign) {
            if (!isPeriod(period)) {
                return;
            }
            for (int p = period; p < PERIODS; p++) {
                balances[p] += amount;
                foreignBalances[p] += foreign;
            }
        }

        int balanceUpTo(int period) {
            return isPeriod(period) ? balances[period] : 0;
        }

        int foreignUpTo(int period) {
            return isPeriod(period) ? foreignBalances[period] : 0;
        }

        void keep(int period) {
            if (isPeriod(period)) {
                kept[period] = balances[period];
            }
        }

        int changeSinceKept(int period) {
            return isPeriod(period) ? balances[period] - kept[period] : 0;
        }
    }

    /** A told template; its steps stand in the order in which a stack works them off. */
    private static final class Template {
        private final int number;
        private final String name;
        private final ArrayList<Token> steps = new ArrayList<Token>();
        private int lineCount;
        private Account rest;

        Template(int number, String name) {
            this.number = number;
            this.name = name;
        }
    }

    /** The lines of an entry that is not made yet. */
    private static final class Draft {
        private static final int MAX_AMOUNT = 1000000;
        // The most is a closing's: a line for each of 15 accounts, and a last one on the 16th.
        private static final int MAX_LINES = 16;
        // At each of the 8 depths a sum, a product and a min or max, or an or and an and, can wait for
        // their right sides, and the sum ahead of a when, and one side of a comparison, besides.
        private static final int MAX_STACK = 64;

        private final Account[] accounts = new Account[MAX_LINES];
        private final int[] amounts = new int[MAX_LINES];
        private final int[] foreigns = new int[MAX_LINES];
        private int lineCount;

        private final int[] stack = new int[MAX_STACK];
        private int stackSize;
        private int period;
        private int rate;
        private int x;
        private int y;
        private int z;

        void clear() {
            lineCount = 0;
        }

        void add(Account account, int amount, int foreign) {
            if (lineCount >= 0 && lineCount < MAX_LINES) {
                accounts[lineCount] = account;
                amounts[lineCount] = amount;
                foreigns[lineCount] = foreign;
                lineCount++;
            }
        }

        int amountOn(Account account) {
            int sum = 0;
            for (int i = 0; i < lineCount && i < MAX_LINES; i++) {
                if (accounts[i] == account) {
                    sum += amounts[i];
                }
            }
            return sum;
        }

        int total() {
            int sum = 0;
            for (int i = 0; i < lineCount && i < MAX_LINES; i++) {
                sum += amounts[i];
            }
            return sum;
        }

        /** Adds a line that balances the others, if they don't yet. */
        void balanceOn(Account account) {
            int rest = -total();
            if (rest != 0) {
                add(account, rest, 0);
            }
        }

        void setInputs(int x, int y, int z) {
            this.x = x;
            this.y = y;
            this.z = z;
        }

        /** Writes what a template makes; false if it makes nothing that can be posted. */
        boolean writeBy(Template template, int period, int rate) {
            clear();
            stackSize = 0;
            this.period = period;
            this.rate = rate;
            boolean isWritten = true;
            for (int i = 0; i < template.steps.size() && isWritten; i++) {
                isWritten = perform(template.steps.get(i));
            }
            return isWritten && addRest(template.rest) && lineCount > 0 && total() == 0;
        }

        private boolean perform(Token step) {
            switch (step.sign) {
                case DEBIT:
                    return addSum(step.account, pop());
                case CREDIT:
                    return addSum(step.account, -(long) pop());
                case TURN:
                    push(-pop());
                    return true;
                case NOT:
                    push(pop() == 0 ? 1 : 0);
                    return true;
                case NUMBER:
                case X:
                case Y:
                case Z:
                case PERIOD:
                case RATE:
                case OF:
                    push(valueOf(step));
                    return true;
                default:
                    int right = pop();
                    int left = pop();
                    push(joined(step.sign, left, right));
                    return true;
            }
        }

        private int valueOf(Token step) {
            switch (step.sign) {
                case NUMBER: return step.number;
                case X: return x;
                case Y: return y;
                case Z: return z;
                case PERIOD: return period;
                case RATE: return rate;
                default: return step.account != null ? step.account.balanceUpTo(period) : 0;
            }
        }

        private static int joined(Sign sign, int left, int right) {
            switch (sign) {
                case PLUS: return left + right;
                case MINUS: return left - right;
                case TIMES: return left * right;
                case OVER: return right != 0 ? left / right : 0;
                case MIN: return Math.min(left, right);
                case MAX: return Math.max(left, right);
                case LESS: return left < right ? 1 : 0;
                case MORE: return left > right ? 1 : 0;
                case EQUAL: return left == right ? 1 : 0;
                case AT_MOST: return left <= right ? 1 : 0;
                case AT_LEAST: return left >= right ? 1 : 0;
                case AND: return left != 0 && right != 0 ? 1 : 0;
                case OR: return left != 0 || right != 0 ? 1 : 0;
                // A line whose test fails is left out just as one whose sum is 0.
                case WHEN: return right != 0 ? left : 0;
                default: return 0;
            }
        }

        private boolean addSum(Account account, long sum) {
            if (account == null || !isAmount(sum)) {
                return false;
            }
            long amount = account.isForeign ? sum * rate / 100 : sum;
            if (!isAmount(amount)) {
                return false;
            }
            if (sum != 0) {
                add(account, (int) amount, account.isForeign ? (int) sum : 0);
            }
            return true;
        }

        private boolean addRest(Account account) {
            long amount = -(long) total();
            if (account == null || amount == 0) {
                return true;
            }
            long foreign = account.isForeign && rate != 0 ? amount * 100 / rate : 0;
            if (!isAmount(amount) || !isAmount(foreign)) {
                return false;
            }
            add(account, (int) amount, (int) foreign);
            return true;
        }

        private static boolean isAmount(long value) {
            return value >= -MAX_AMOUNT && value <= MAX_AMOUNT;
        }

        private void push(int value) {
            if (stackSize >= 0 && stackSize < MAX_STACK) {
                stack[stackSize] = value;
                stackSize++;
            }
        }

        private int pop() {
            if (stackSize <= 0 || stackSize > MAX_STACK) {
                return 0;
            }
            stackSize--;
            return stack[stackSize];
        }
    }

    /** An entry that is made. */
    private static final class Entry {
        private static final int POSTED = 0;
        private static final int REVERSAL = 1;
        private static final int REVALUATION = 2;
        private static final int RESULT = 3;

        private final int kind;
        private final int source;
        private final String word;
        private final int period;
        private int number;
        private int firstLine;
        private int lineCount;
        private boolean isVoid;
        private int reversal = -1;

        Entry(int kind, int source, String word, int period) {
            this.kind = kind;
            this.source = source;
            this.word = word;
            this.period = period;
        }

        boolean isByClosing() {
            return kind == REVALUATION || kind == RESULT;
        }
    }

    /** A line of an entry that is made. */
    private static final class Line {
        private final Entry entry;
        private final Account account;
        private final int amount;
        private final int foreign;
        private int allocated;

        Line(Entry entry, Account account, int amount, int foreign) {
            this.entry = entry;
            this.account = account;
            this.amount = amount;
            this.foreign = foreign;
        }

        boolean canBeAllocated() {
            return account.hasItems && !entry.isByClosing() && !entry.isVoid;
        }

        int openAmount() {
            return canBeAllocated() ? Math.abs(amount) - allocated : 0;
        }

        /** Whether it is a debit of an account, or a credit of it; one whose amount is 0 is neither. */
        boolean isOf(Account asked, boolean isDebit) {
            return account == asked && (isDebit ? amount > 0 : amount < 0);
        }

        /** Whether the other one is of the same account and of its other side. */
        boolean isOpposite(Line other) {
            return amount != 0 && other.isOf(account, amount < 0);
        }
    }

    /** What two lines have taken from each other. */
    private static final class Allocation {
        private final Line one;
        private final Line other;
        private final int amount;

        Allocation(Line one, Line other, int amount) {
            this.one = one;
            this.other = other;
            this.amount = amount;
        }
    }

    /** All entries with their lines, the allocations, and the periods. */
    private static final class Book {
        private static final int MAX_ENTRIES = 60;
        private static final int MAX_LINES = 300;
        private static final int MAX_ALLOCATIONS = 60;
        private static final int MAX_CHOICE = 10;
        private static final int FIRST_RATE = 100;

        private final ArrayList<Entry> entries = new ArrayList<Entry>();
        private final ArrayList<Line> lines = new ArrayList<Line>();
        private final ArrayList<Allocation> allocations = new ArrayList<Allocation>();
        private final int[] rates = new int[PERIODS];
        private final int[] closings = new int[PERIODS];
        private final int[] choice = new int[MAX_CHOICE];
        private final Draft draft = new Draft();
        private final Draft resultDraft = new Draft();
        // Periods are closed one behind the other, so their number tells which ones.
        private int closed;

        Book() {
            for (int p = 0; p < PERIODS; p++) {
                rates[p] = FIRST_RATE;
            }
        }

        boolean isClosed(int period) {
            return period < closed;
        }

        int rateOf(int period) {
            return isPeriod(period) ? rates[period] : FIRST_RATE;
        }

        int changeRate(int period, int rate) {
            int before = rateOf(period);
            if (isPeriod(period)) {
                rates[period] = rate;
            }
            return before;
        }

        int timesClosed(int period) {
            return isPeriod(period) ? closings[period] : 0;
        }

        int voidEntries() {
            int sum = 0;
            for (int i = 0; i < entries.size(); i++) {
                if (entries.get(i).isVoid) {
                    sum++;
                }
            }
            return sum;
        }

        int entriesOf(int period) {
            int sum = 0;
            for (int i = 0; i < entries.size(); i++) {
                Entry entry = entries.get(i);
                if (entry.period == period && !entry.isVoid) {
                    sum++;
                }
            }
            return sum;
        }

        int linesOf(Account account) {
            int sum = 0;
            for (int i = 0; i < lines.size(); i++) {
                Line line = lines.get(i);
                if (line.account == account && !line.entry.isVoid) {
                    sum++;
                }
            }
            return sum;
        }

        private boolean hasRoom(int moreEntries, int moreLines) {
            return entries.size() + moreEntries <= MAX_ENTRIES && lines.size() + moreLines <= MAX_LINES;
        }

        private int enter(Entry entry, Draft written) {
            entry.number = entries.size();
            entry.firstLine = lines.size();
            entry.lineCount = written.lineCount;
            entries.add(entry);
            for (int i = 0; i < written.lineCount && i < Draft.MAX_LINES; i++) {
                Account account = written.accounts[i];
                if (account != null) {
                    lines.add(new Line(entry, account, written.amounts[i], written.foreigns[i]));
                    account.add(entry.period, written.amounts[i], written.foreigns[i]);
                }
            }
            return entry.number;
        }

        /** Writes the draft of a posting; false if it cannot be posted. */
        boolean draftPosting(Template template, int period, int x, int y, int z) {
            if (isClosed(period)) {
                return false;
            }
            draft.setInputs(x, y, z);
            return draft.writeBy(template, period, rateOf(period)) && hasRoom(1, draft.lineCount);
        }

        int enterPosting(Template template, int period) {
            return enter(new Entry(Entry.POSTED, template.number, template.name, period), draft);
        }

        boolean canReverse(Entry entry) {
            return entry.kind == Entry.POSTED && !entry.isVoid && entry.reversal < 0
                    && !isAllocated(entry) && hasRoom(1, entry.lineCount);
        }

        private boolean isAllocated(Entry entry) {
            for (int i = 0; i < lines.size(); i++) {
                Line line = lines.get(i);
                if (line.entry == entry && line.allocated > 0) {
                    return true;
                }
            }
            return false;
        }

        int enterReversal(Entry entry, int period) {
            draft.clear();
            for (int i = 0; i < lines.size(); i++) {
                Line line = lines.get(i);
                if (line.entry == entry) {
                    draft.add(line.account, -line.amount, -line.foreign);
                }
            }
            entry.reversal = enter(new Entry(Entry.REVERSAL, entry.number, "reversal", period), draft);
            return entry.reversal;
        }

        boolean canAllocate(Line one, Line other, int amount) {
            return one.isOpposite(other) && amount <= one.openAmount() && amount <= other.openAmount()
                    && allocations.size() < MAX_ALLOCATIONS;
        }

        void addAllocation(Line one, Line other, int amount) {
            allocations.add(new Allocation(one, other, amount));
            one.allocated += amount;
            other.allocated += amount;
        }

        int allocateFirstOnes(Account account) {
            int sum = 0;
            for (int n = allocations.size(); n < MAX_ALLOCATIONS; n++) {
                Line debit = firstOpen(account, true);
                Line credit = firstOpen(account, false);
                if (debit == null || credit == null) {
                    return sum;
                }
                int amount = Math.min(debit.openAmount(), credit.openAmount());
                addAllocation(debit, credit, amount);
                sum += amount;
            }
            return sum;
        }

        private Line firstOpen(Account account, boolean isDebit) {
            for (int i = 0; i < lines.size(); i++) {
                Line line = lines.get(i);
                if (line.isOf(account, isDebit) && line.openAmount() > 0) {
                    return line;
                }
            }
            return null;
        }

        int takeBack(Line line) {
            int sum = 0;
            for (int i = allocations.size() - 1; i >= 0; i--) {
                Allocation allocation = allocations.get(i);
                if (allocation.one == line || allocation.other == line) {
                    allocations.remove(i);
                    allocation.one.allocated -= allocation.amount;
                    allocation.other.allocated -= allocation.amount;
                    sum += allocation.amount;
                }
            }
            return sum;
        }

        int openOf(Account account, boolean isDebit, int from, int to) {
            int sum = 0;
            for (int i = 0; i < lines.size(); i++) {
                Line line = lines.get(i);
                int period = line.entry.period;
                if (line.isOf(account, isDebit) && period >= from && period <= to) {
                    sum += line.openAmount();
                }
            }
            return sum;
        }

        long allAllocated() {
            long sum = 0;
            for (int i = 0; i < lines.size(); i++) {
                sum += lines.get(i).allocated;
            }
            return sum;
        }

        long allAllocatable() {
            long sum = 0;
            for (int i = 0; i < lines.size(); i++) {
                Line line = lines.get(i);
                if (line.canBeAllocated()) {
                    sum += Math.abs(line.amount);
                }
            }
            return sum;
        }

        int fewestThatMakeUp(Line line) {
            int goal = line.openAmount();
            if (goal == 0) {
                return -1;
            }
            int choices = listOpenOpposites(line);
            int best = -1;
            int fewest = MAX_CHOICE + 1;
            for (int set = 1; set < 1 << choices; set++) {
                int size = Integer.bitCount(set);
                if (size < fewest && sumOfChoice(set) == goal) {
                    fewest = size;
                    best = set;
                }
            }
            return best;
        }

        private int listOpenOpposites(Line line) {
            int choices = 0;
            for (int i = 0; i < lines.size() && choices < MAX_CHOICE; i++) {
                Line other = lines.get(i);
                if (line.isOpposite(other) && other.openAmount() > 0) {
                    choice[choices] = other.openAmount();
                    choices++;
                }
            }
            return choices;
        }

        private int sumOfChoice(int set) {
            int sum = 0;
            for (int k = 0; k < MAX_CHOICE; k++) {
                if ((set >> k & 1) != 0) {
                    sum += choice[k];
                }
            }
            return sum;
        }

        /** Writes the drafts of a closing; false if there is no room for it. */
        boolean draftClosing(int period, ArrayList<Account> accounts) {
            draftRevaluation(period, accounts);
            draftResult(period, accounts);
            int moreEntries = (draft.lineCount > 0 ? 1 : 0) + (resultDraft.lineCount > 0 ? 1 : 0);
            return hasRoom(moreEntries, draft.lineCount + resultDraft.lineCount);
        }

        private void draftRevaluation(int period, ArrayList<Account> accounts) {
            draft.clear();
            Account income = firstOfKind(Account.INCOME, accounts);
            if (income == null) {
                return;
            }
            for (int i = 0; i < accounts.size(); i++) {
                Account account = accounts.get(i);
                if (account.isForeign) {
                    long worth = (long) account.foreignUpTo(period) * rateOf(period) / 100;
                    addIfAny(draft, account, (int) (worth - account.balanceUpTo(period)));
                }
            }
            draft.balanceOn(income);
        }

        private void draftResult(int period, ArrayList<Account> accounts) {
            resultDraft.clear();
            Account equity = firstOfKind(Account.EQUITY, accounts);
            if (equity == null || period % 4 != 3) {
                return;
            }
            for (int i = 0; i < accounts.size(); i++) {
                Account account = accounts.get(i);
                if (account.kind == Account.INCOME || account.kind == Account.COST) {
                    // The revaluation is made ahead of the result, so its line is in the balance.
                    int balance = account.balanceUpTo(period) + draft.amountOn(account);
                    addIfAny(resultDraft, account, -balance);
                }
            }
            resultDraft.balanceOn(equity);
        }

        private static void addIfAny(Draft written, Account account, int amount) {
            if (amount != 0) {
                written.add(account, amount, 0);
            }
        }

        private static Account firstOfKind(int kind, ArrayList<Account> accounts) {
            for (int i = 0; i < accounts.size(); i++) {
                if (accounts.get(i).kind == kind) {
                    return accounts.get(i);
                }
            }
            return null;
        }

        int enterClosing(int period, ArrayList<Account> accounts) {
            if (draft.lineCount > 0) {
                enter(new Entry(Entry.REVALUATION, -1, "revaluation", period), draft);
            }
            if (resultDraft.lineCount > 0) {
                enter(new Entry(Entry.RESULT, -1, "result", period), resultDraft);
            }
            if (timesClosed(period) == 0) {
                keepBalances(period, accounts);
            }
            if (isPeriod(period)) {
                closings[period]++;
            }
            closed = period + 1;
            return draft.lineCount + resultDraft.lineCount;
        }

        private static void keepBalances(int period, ArrayList<Account> accounts) {
            for (int i = 0; i < accounts.size(); i++) {
                accounts.get(i).keep(period);
            }
        }

        int openAgain(int period) {
            closed = period;
            int sum = 0;
            for (int i = 0; i < lines.size(); i++) {
                Line line = lines.get(i);
                if (isVoidWith(period, line.entry)) {
                    line.account.add(period, -line.amount, -line.foreign);
                    sum++;
                }
            }
            makeVoid(period);
            return sum;
        }

        private static boolean isVoidWith(int period, Entry entry) {
            return entry.period == period && entry.isByClosing() && !entry.isVoid;
        }

        private void makeVoid(int period) {
            for (int i = 0; i < entries.size(); i++) {
                Entry entry = entries.get(i);
                if (isVoidWith(period, entry)) {
                    entry.isVoid = true;
                }
            }
        }
    }
}
