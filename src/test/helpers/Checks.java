/**
 * What the tests share: answers are compared under the sentence of the document that asks for them,
 * and objects are made from written patterns. In a written pattern a backslash says that the
 * character behind it is quoted. Tests extend this class only to call its functions by their names,
 * because a class without a package can't be imported.
 */
abstract class Checks {
    static final int NONE = NamePattern.NONE;
    private static final int CHARS_IN_A_CALL = 8;
    private static int wrong = 0;
    private static String sentence = "";

    static void sentence(String words) {
        sentence = words;
    }

    static void due(String what, boolean got, boolean want) {
        due(what, got ? 1 : 0, want ? 1 : 0);
    }

    static void due(String what, int got, int want) {
        if (got != want) {
            tellWrong(what, String.valueOf(got), String.valueOf(want));
        }
    }

    static void dueMatch(String pattern, String text, boolean want) {
        due(pattern + " against " + text, made(pattern, text).matches(), want);
    }

    static void duePart(NamePattern x, int from, int to, boolean want) {
        dueAnswer("part " + from + ", " + to, partAnswer(x, from, to), String.valueOf(want));
    }

    static void dueNoPart(NamePattern x, int from, int to) {
        dueAnswer("part " + from + ", " + to, partAnswer(x, from, to),
                "java.lang.IndexOutOfBoundsException");
    }

    // The exception's own class is told, because a machine's exception may stand below the due one.
    private static String partAnswer(NamePattern x, int from, int to) {
        try {
            return String.valueOf(x.part(from, to));
        } catch (RuntimeException e) {
            return e.getClass().getName();
        }
    }

    static void dueCuts(String pattern, String text, boolean end, int shortest, int longest) {
        NamePattern x = made(pattern, text);
        String name = pattern + " of " + text + (end ? ", end, " : ", beginning, ");
        due(name + "shortest", x.cut(end, false), shortest);
        due(name + "longest", x.cut(end, true), longest);
    }

    static void dueSpecial(String pattern, boolean want) {
        due(pattern + " is special", made(pattern, "").isSpecial(), want);
    }

    static void dueSets(String pattern, int want) {
        due("sets in " + pattern, made(pattern, "").count(3), want);
    }

    static void dueCounts(NamePattern x, int text, int pattern, int quoted, int sets) {
        due("count 0", x.count(0), text);
        due("count 1", x.count(1), pattern);
        due("count 2", x.count(2), quoted);
        due("count 3", x.count(3), sets);
    }

    /** The answers of all calls that only ask, to be compared before and behind another call. */
    static String state(NamePattern x) {
        StringBuilder told = new StringBuilder();
        for (int what = 0; what <= 3; what++) {
            told.append(x.count(what)).append(' ');
        }
        told.append(x.isSpecial()).append(' ').append(x.matches());
        for (int k = 0; k < 4; k++) {
            told.append(' ').append(x.cut((k & 1) == 1, (k & 2) == 2));
        }
        return told.toString();
    }

    static void dueState(String what, NamePattern x, String before) {
        dueAnswer("state behind " + what, state(x), before);
    }

    static NamePattern made(String pattern, String text) {
        NamePattern x = new NamePattern();
        addPattern(x, pattern);
        addText(x, text);
        return x;
    }

    // Eight characters a call, because the document promises 512 calls of one object and no more.
    static void addText(NamePattern x, String text) {
        for (int at = 0; at < text.length(); at += CHARS_IN_A_CALL) {
            int n = Math.min(CHARS_IN_A_CALL, text.length() - at);
            mustHaveRoom(x.text(packed(text.substring(at, at + n)), n));
        }
    }

    static void addPattern(NamePattern x, String pattern) {
        StringBuilder signs = new StringBuilder();
        StringBuilder quotes = new StringBuilder();
        for (int i = 0; i < pattern.length(); i++) {
            boolean quoted = pattern.charAt(i) == '\\';
            i += quoted ? 1 : 0;
            signs.append(pattern.charAt(i));
            quotes.append(quoted ? '1' : '0');
        }
        for (int at = 0; at < signs.length(); at += CHARS_IN_A_CALL) {
            int n = Math.min(CHARS_IN_A_CALL, signs.length() - at);
            int bits = bitsOf(quotes.substring(at, at + n));
            mustHaveRoom(x.pattern(packed(signs.substring(at, at + n)), n, bits));
        }
    }

    // The first character's bit is the lowest, so the row is read backwards as a binary number.
    private static int bitsOf(String quotes) {
        return Integer.parseInt(new StringBuilder(quotes).reverse().toString(), 2);
    }

    static long packed(String chars) {
        long made = 0;
        for (int i = 0; i < chars.length(); i++) {
            made = made << 8 | chars.charAt(i);
        }
        return made;
    }

    /** Ends the test, with exit code 1 if an answer was wrong. */
    static void end(String allRight) {
        System.out.println(wrong == 0 ? allRight : wrong + " answers are not as due");
        if (wrong != 0) {
            System.exit(1);
        }
    }

    private static void mustHaveRoom(int answer) {
        if (answer == NONE) {
            tellWrong("a call that fills the object", "NONE", "a length");
        }
    }

    private static void dueAnswer(String what, String got, String want) {
        if (!got.equals(want)) {
            tellWrong(what, got, want);
        }
    }

    private static void tellWrong(String what, String got, String want) {
        wrong++;
        System.out.println(sentence + " | " + what + " answered " + got + ", due is " + want);
    }
}
