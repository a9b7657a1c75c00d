import java.util.ArrayList;
import java.util.List;

/** Makes texts of the language, right ones and wrong ones. */
final class Texts {
    private final Dice dice;
    private final List<String> accounts = new ArrayList<>();

    Texts(Dice dice) {
        this.dice = dice;
    }

    /** A text that most often has no error, and is good for postings. */
    String ledger() {
        StringBuilder text = new StringBuilder();
        accounts.clear();
        int many = dice.oneIn(12) ? 16 : dice.between(2, 8);
        for (int i = 0; i < many; i++) {
            text.append(account("a" + i));
        }
        int templates = dice.oneIn(12) ? 10 : dice.between(1, 5);
        for (int i = 0; i < templates; i++) {
            text.append(template(dice.oneIn(9) ? "longname" + (char) ('a' + i) + "9" : "t" + i));
        }
        return text.toString();
    }

    private String account(String name) {
        accounts.add(name);
        String kind = dice.oneOf("asset", "asset", "debt", "debt", "equity", "income", "income", "cost");
        boolean canBeForeign = !kind.equals("income") && !kind.equals("cost");
        return "account " + name + " " + kind + (dice.oneIn(3) ? "" : " items")
                + (canBeForeign && dice.oneIn(2) ? " foreign" : "") + ";" + dice.oneOf("", " ", "\n");
    }

    private String known() {
        return dice.oneOf(accounts.toArray(new String[0]));
    }

    private String template(String name) {
        StringBuilder text = new StringBuilder("post " + name + " {");
        int lines = dice.oneIn(10) ? 8 : dice.between(1, 4);
        int rest = dice.oneIn(8) ? -1 : dice.below(lines);
        for (int i = 0; i < lines; i++) {
            text.append(i == rest ? "rest " + known() + ";" : line());
        }
        return text.append("}").toString();
    }

    private String line() {
        String sum = dice.oneIn(3) ? sum(2) : dice.oneOf("x", "x", "y", "x * 3", "z", "x + y", "x / 2", "y - x", "100 - x");
        String test = dice.oneIn(4) ? " when " + test(2) : "";
        return dice.oneOf("debit ", "credit ") + known() + " " + sum + test + ";" + dice.oneOf("", " ");
    }

    private String sum(int size) {
        if (size == 0 || dice.oneIn(4)) {
            return value();
        }
        switch (dice.below(8)) {
            case 0: return "(" + sum(size - 1) + ")";
            case 1: return "min(" + sum(size - 1) + "," + sum(size - 1) + ")";
            case 2: return "max(" + sum(size - 1) + " , " + sum(size - 1) + ")";
            case 3: return "-" + value();
            case 4: return sum(size - 1) + "*" + sum(size - 1);
            case 5: return sum(size - 1) + "/" + sum(size - 1);
            case 6: return sum(size - 1) + " - " + sum(size - 1);
            default: return sum(size - 1) + "+" + sum(size - 1);
        }
    }

    private String value() {
        switch (dice.below(9)) {
            case 0: return "" + dice.below(12);
            case 1: return "" + dice.below(1000);
            case 2: return dice.oneOf("999999", "100000", "65536", "0");
            case 3: return "period";
            case 4: return "rate";
            case 5: return "of " + known();
            case 6: return "y";
            case 7: return "z";
            default: return "x";
        }
    }

    private String test(int size) {
        if (size == 0 || dice.oneIn(3)) {
            return sum(1) + dice.oneOf("<", ">", "=", "<=", ">=", " < ") + sum(1);
        }
        switch (dice.below(4)) {
            case 0: return "not " + test(size - 1);
            case 1: return "[" + test(size - 1) + "]";
            case 2: return test(size - 1) + " and " + test(size - 1);
            default: return test(size - 1) + " or " + test(size - 1);
        }
    }

    /** A text with something in it that is perhaps wrong. */
    String spoilt() {
        StringBuilder text = new StringBuilder(ledger());
        for (int n = dice.between(1, 3); n > 0; n--) {
            spoil(text);
        }
        return text.toString();
    }

    private void spoil(StringBuilder text) {
        int at = dice.below(Math.max(1, text.length()));
        switch (dice.below(11)) {
            case 0:
                text.delete(at, at + 1);
                break;
            case 1:
                text.insert(Math.min(at, text.length()), (char) dice.below(256));
                break;
            case 2:
                text.setLength(Math.max(1, at));
                break;
            case 3:
                text.insert(endOfToken(text, at), " " + dice.oneOf("account", "rest", "foreign", "items", "x", "of", "a0",
                        "not", "and", "(", "]", "-", "1234567", "abcdefghijk", "123456", "<", "<=", "b", "when", "min") + " ");
                break;
            case 4:
                replace(text, dice.oneOf("a0", "a1", "t0", "t1"), dice.oneOf("a0", "a1", "t0", "zz"), at);
                break;
            case 5:
                replace(text, dice.oneOf("debit", "credit"), "rest", at);
                break;
            case 6:
                replace(text, "x", nested(), at);
                break;
            case 7:
                replace(text, dice.oneOf("income", "cost"), dice.oneOf("cost foreign", "income items foreign"), 0);
                break;
            case 8:
                replace(text, dice.oneOf("{", ";}"), dice.oneOf("{rest a0;", ";rest a1;}", "{debit a0 1;rest a0;"), at);
                break;
            case 9:
                replace(text, "{", "{credit a0 of a1;rest a0;" + "debit a1 x;".repeat(dice.between(1, 8)), 0);
                break;
            default:
                text.insert(0, many());
                break;
        }
    }

    private static int endOfToken(StringBuilder text, int from) {
        int at = from;
        while (at < text.length() && Character.isLetterOrDigit(text.charAt(at))) {
            at++;
        }
        return at;
    }

    private static void replace(StringBuilder text, String old, String fresh, int from) {
        int at = text.indexOf(old, from);
        if (at >= 0) {
            text.replace(at, at + old.length(), fresh);
        }
    }

    /** Something that is about as deep as it may be. */
    private String nested() {
        String sum = "x";
        for (int n = dice.between(4, 8); n > 0; n--) {
            sum = dice.oneIn(3) ? "-" + sum : dice.oneIn(2) ? "min(1," + sum + ")" : "(" + sum + ")";
        }
        return sum;
    }

    private String many() {
        StringBuilder text = new StringBuilder();
        switch (dice.below(3)) {
            case 0:
                for (int i = dice.between(14, 18); i > 0; i--) {
                    text.append("account m" + i + " cost;");
                }
                break;
            case 1:
                text.append("account m asset;");
                for (int i = dice.between(8, 12); i > 0; i--) {
                    text.append("post m" + i + "{rest m;}");
                }
                break;
            default:
                text.append("account m asset;post m{debit m x");
                for (int i = dice.between(150, 200); i > 0; i--) {
                    text.append("+x");
                }
                text.append(";}");
                break;
        }
        return text.toString();
    }
}
