/** Counts the calls whose answers are not the ones that are due; what the tests share. */
final class Check {
    private static int wrong = 0;
    private static int right = 0;

    private Check() {
    }

    interface Call {
        Object answer();
    }

    /** What a call answers; the exception's class, if it throws one. */
    static Object answerOf(Call call) {
        try {
            return call.answer();
        } catch (RuntimeException e) {
            return e.getClass();
        }
    }

    static void due(String what, Object want, Call call) {
        Object got = answerOf(call);
        boolean isRight = want instanceof Number && got instanceof Number
                ? isSame((Number) want, (Number) got) : want.equals(got);
        if (isRight) {
            right++;
        } else {
            wrong++;
            System.out.println(what + " answered " + got + ", due is " + want);
        }
    }

    private static boolean isSame(Number want, Number got) {
        if (want instanceof Double || got instanceof Double) {
            return want.doubleValue() == got.doubleValue();
        }
        return want.longValue() == got.longValue();
    }

    static void outOfBounds(String what, Call call) {
        due(what, IndexOutOfBoundsException.class, call);
    }

    static void badArgument(String what, Call call) {
        due(what, IllegalArgumentException.class, call);
    }

    static void badState(String what, Call call) {
        due(what, IllegalStateException.class, call);
    }

    /** Appends a text to the tape, as long as it is. */
    static void feed(SubLedger ledger, String text) {
        int before = ledger.count(7);
        StringBuilder padded = new StringBuilder(text);
        while (padded.length() % 20 != 0) {
            padded.append(' ');
        }
        for (int i = 0; i < padded.length(); i += 20) {
            ledger.feed(number(padded, i), number(padded, i + 4), number(padded, i + 8),
                    number(padded, i + 12), number(padded, i + 16));
        }
        ledger.trim(before + text.length());
    }

    private static int number(CharSequence text, int from) {
        int number = 0;
        for (int i = from; i < from + 4; i++) {
            number = number << 8 | text.charAt(i) & 255;
        }
        return number;
    }

    static int teach(SubLedger ledger, String text) {
        feed(ledger, text);
        return ledger.teach();
    }

    /** A new ledger that has been taught a text, which has to have no error. */
    static SubLedger taught(String text) {
        SubLedger ledger = new SubLedger();
        int error = teach(ledger, text);
        if (error != 0) {
            wrong++;
            System.out.println("error " + error + " at " + ledger.errorAt() + " in: " + text);
        }
        return ledger;
    }

    static String paper(SubLedger ledger) {
        StringBuilder text = new StringBuilder();
        for (int i = 0; i < ledger.count(8); i++) {
            text.append((char) ledger.byteAt(i));
        }
        return text.toString();
    }

    static void end(String test) {
        System.out.println(test + ": " + right + " right, " + wrong + " wrong");
        if (wrong != 0 || right == 0) {
            System.exit(1);
        }
    }
}
