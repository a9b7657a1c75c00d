import java.util.ArrayList;
import java.util.HashMap;
import java.util.HashSet;
import java.util.List;
import java.util.Map;
import java.util.Set;
import java.util.regex.Matcher;
import java.util.regex.Pattern;

/** A second reading of the document's language, for ModelTest: trees instead of steps, names in a pass of their own. */
final class ModelText {
    interface Sum {
        int in(Env env);
    }

    interface Truth {
        boolean in(Env env);
    }

    interface Balances {
        int of(String account);
    }

    record Env(int x, int y, int z, int period, int rate, Balances balances) { }

    record Account(String name, int kind, boolean items, boolean foreign) { }

    record Line(boolean credit, String account, Sum sum, Truth test) { }

    record Template(String name, List<Line> lines, String rest) { }

    private record Token(String text, int at) { }

    private static final class Wrong extends RuntimeException {
        private static final long serialVersionUID = 1;
    }

    private static final List<String> KINDS = List.of("asset", "debt", "equity", "income", "cost");
    private static final Set<String> KEYWORDS = Set.of(("account asset debt equity income cost items foreign post "
            + "debit credit rest when of and or not min max x y z period rate").split(" "));
    private static final Pattern TOKEN = Pattern.compile("[a-z][a-z0-9]*|[0-9]+|<=|>=|[{}()\\[\\];,+\\-*/<>=]");

    final List<Account> accounts = new ArrayList<>();
    final List<Template> templates = new ArrayList<>();
    int error;
    int errorAt = -1;
    private final List<Token> tokens = new ArrayList<>();
    private int place;
    private int depth;

    ModelText(String tape) {
        scan(tape);
        try {
            while (!peek().isEmpty()) {
                if (peek().equals("account")) {
                    account();
                } else {
                    template();
                }
            }
        } catch (Wrong e) {
            error = 1;
            errorAt = tokens.get(place).at;
            return;
        }
        checkNames();
    }

    private void scan(String tape) {
        int at = 0;
        Matcher matcher = TOKEN.matcher(tape);
        while (true) {
            while (at < tape.length() && (tape.charAt(at) == ' ' || tape.charAt(at) == 10)) {
                at++;
            }
            if (at == tape.length()) {
                tokens.add(new Token("", at));
                return;
            }
            matcher.region(at, tape.length());
            boolean found = matcher.lookingAt();
            String text = found ? matcher.group() : "?";
            boolean isLong = Character.isLetter(text.charAt(0)) && text.length() > 10
                    || Character.isDigit(text.charAt(0)) && text.length() > 6;
            if (!found || isLong || tokens.size() == 400) {
                tokens.add(new Token("?", at));
                return;
            }
            tokens.add(new Token(text, at));
            at += text.length();
        }
    }

    private String peek() {
        return tokens.get(place).text;
    }

    private String next() {
        return tokens.get(place++).text;
    }

    private void want(String text) {
        if (!peek().equals(text)) {
            throw new Wrong();
        }
        place++;
    }

    private boolean accept(String text) {
        boolean is = peek().equals(text);
        if (is) {
            place++;
        }
        return is;
    }

    private static boolean isName(String text) {
        return !text.isEmpty() && Character.isLetter(text.charAt(0)) && !KEYWORDS.contains(text);
    }

    private String name() {
        if (!isName(peek())) {
            throw new Wrong();
        }
        return next();
    }

    /** The token that makes things deeper; the error is at it, if it makes them too deep. */
    private void deeper(String text) {
        if (!peek().equals(text) || depth == 8) {
            throw new Wrong();
        }
        place++;
        depth++;
    }

    private void account() {
        want("account");
        String name = name();
        int kind = KINDS.indexOf(peek());
        if (kind < 0) {
            throw new Wrong();
        }
        next();
        boolean items = accept("items");
        boolean foreign = accept("foreign");
        want(";");
        accounts.add(new Account(name, kind, items, foreign));
    }

    private void template() {
        want("post");
        String name = name();
        deeper("{");
        List<Line> lines = new ArrayList<>();
        String rest = null;
        do {
            if (accept("rest")) {
                rest = name();
            } else {
                boolean credit = peek().equals("credit");
                if (!credit && !peek().equals("debit")) {
                    throw new Wrong();
                }
                next();
                String account = name();
                Sum sum = sum();
                Truth test = accept("when") ? test() : env -> true;
                lines.add(new Line(credit, account, sum, test));
            }
            want(";");
        } while (!peek().equals("}"));
        next();
        depth--;
        templates.add(new Template(name, lines, rest));
    }

    private Truth test() {
        Truth all = both();
        while (accept("or")) {
            Truth left = all;
            Truth right = both();
            all = env -> left.in(env) | right.in(env);
        }
        return all;
    }

    private Truth both() {
        Truth all = single();
        while (accept("and")) {
            Truth left = all;
            Truth right = single();
            all = env -> left.in(env) & right.in(env);
        }
        return all;
    }

    private Truth single() {
        if (peek().equals("not")) {
            deeper("not");
            Truth turned = single();
            depth--;
            return env -> !turned.in(env);
        }
        if (peek().equals("[")) {
            deeper("[");
            Truth inner = test();
            want("]");
            depth--;
            return inner;
        }
        Sum left = sum();
        String sign = peek();
        if (!List.of("<", ">", "=", "<=", ">=").contains(sign)) {
            throw new Wrong();
        }
        next();
        Sum right = sum();
        return env -> {
            int order = Integer.compare(left.in(env), right.in(env));
            return order == 0 ? sign.endsWith("=") : sign.startsWith(order < 0 ? "<" : ">");
        };
    }

    private Sum sum() {
        Sum all = product();
        while (peek().equals("+") || peek().equals("-")) {
            boolean isPlus = next().equals("+");
            Sum left = all;
            Sum right = product();
            all = env -> (int) (isPlus ? (long) left.in(env) + right.in(env) : (long) left.in(env) - right.in(env));
        }
        return all;
    }

    private Sum product() {
        Sum all = value();
        while (peek().equals("*") || peek().equals("/")) {
            boolean isTimes = next().equals("*");
            Sum left = all;
            Sum right = value();
            all = env -> {
                long a = left.in(env);
                long b = right.in(env);
                return (int) (isTimes ? a * b : b == 0 ? 0 : a / b);
            };
        }
        return all;
    }

    private Sum value() {
        String text = peek();
        switch (text) {
            case "x": next(); return Env::x;
            case "y": next(); return Env::y;
            case "z": next(); return Env::z;
            case "period": next(); return Env::period;
            case "rate": next(); return Env::rate;
            case "of":
                next();
                String name = name();
                return env -> env.balances().of(name);
            case "-":
                deeper("-");
                Sum turned = value();
                depth--;
                return env -> (int) -(long) turned.in(env);
            case "(":
                deeper("(");
                Sum inner = sum();
                want(")");
                depth--;
                return inner;
            case "min", "max":
                next();
                deeper("(");
                Sum left = sum();
                want(",");
                Sum right = sum();
                want(")");
                depth--;
                return env -> left.in(env) < right.in(env) == text.equals("min") ? left.in(env) : right.in(env);
            default:
                if (text.isEmpty() || !Character.isDigit(text.charAt(0))) {
                    throw new Wrong();
                }
                int number = Integer.parseInt(next());
                return env -> number;
        }
    }

    private void checkNames() {
        Map<String, Integer> known = new HashMap<>();
        Set<String> posts = new HashSet<>();
        int lines = 0;
        boolean hasRest = false;
        for (int i = 0; i < tokens.size() && error == 0; i++) {
            String text = tokens.get(i).text;
            String before = i == 0 ? "" : tokens.get(i - 1).text;
            int found = 0;
            if (isName(text) && before.equals("account")) {
                found = known.containsKey(text) ? 2 : known.size() == 16 ? 4 : 0;
                known.put(text, KINDS.indexOf(tokens.get(i + 1).text));
            } else if (isName(text) && before.equals("post")) {
                found = posts.contains(text) ? 2 : posts.size() == 10 ? 4 : 0;
                posts.add(text);
                lines = 0;
                hasRest = false;
            } else if (isName(text)) {
                found = known.containsKey(text) ? 0 : 3;
            } else if (text.equals("debit") || text.equals("credit") || text.equals("rest")) {
                lines++;
                boolean isRest = text.equals("rest");
                found = lines == 9 ? 4 : isRest && hasRest ? 5 : 0;
                hasRest |= isRest;
            } else if (text.equals("foreign")) {
                String kind = before.equals("items") ? tokens.get(i - 2).text : before;
                found = kind.equals("income") || kind.equals("cost") ? 6 : 0;
            }
            if (found != 0) {
                error = found;
                errorAt = tokens.get(i).at;
            }
        }
    }
}
