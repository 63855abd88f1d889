import java.util.Random;
import java.util.regex.Pattern;

/**
 * Many small patterns and texts, with every answer also worked out in another way: the pattern is
 * written as a regular expression of java.util.regex, and cut and part are asked of every piece.
 */
public final class NamePatternRegexTest {
    private static final int ROUNDS = 60000;
    private static final int LONGEST_PATTERN = 12;
    private static final int LONGEST_TEXT = 8;
    private static final String PATTERN_SIGNS = "[[[]]]!!---**?abcd\u0000\u00ff";
    private static final String TEXT_SIGNS = "[]!-*?abcd\u0000\u00ff";
    private static int wrong = 0;

    private final char[] signs;
    private final boolean[] quoted;
    private final String text;
    private final NamePattern x = new NamePattern();
    private int sets = 0;

    private NamePatternRegexTest(Random random) {
        signs = new char[random.nextInt(LONGEST_PATTERN + 1)];
        quoted = new boolean[signs.length];
        for (int i = 0; i < signs.length; i++) {
            signs[i] = PATTERN_SIGNS.charAt(random.nextInt(PATTERN_SIGNS.length()));
            quoted[i] = random.nextInt(6) == 0;
        }
        StringBuilder made = new StringBuilder();
        for (int n = random.nextInt(LONGEST_TEXT + 1); n > 0; n--) {
            made.append(TEXT_SIGNS.charAt(random.nextInt(TEXT_SIGNS.length())));
        }
        text = made.toString();
    }

    public static void main(String[] args) {
        // A fixed seed, so that each run of the test asks the same.
        Random random = new Random(20261115L);
        for (int round = 0; round < ROUNDS; round++) {
            new NamePatternRegexTest(random).check(random);
        }
        System.out.println(wrong == 0 ? "all answers are as the regular expressions have them"
                : wrong + " answers are not as due");
        if (wrong != 0) {
            System.exit(1);
        }
    }

    private void check(Random random) {
        fillText(random);
        fillPattern(random);
        Pattern regex = Pattern.compile(regex(), Pattern.DOTALL);
        boolean[][] due = new boolean[text.length() + 1][text.length() + 1];
        for (int from = 0; from <= text.length(); from++) {
            for (int to = from; to <= text.length(); to++) {
                due[from][to] = regex.matcher(text.substring(from, to)).matches();
                compare("part " + from + " " + to, x.part(from, to) ? 1 : 0, due[from][to] ? 1 : 0);
            }
        }
        compare("matches", x.matches() ? 1 : 0, due[0][text.length()] ? 1 : 0);
        compareCuts(due);
        compare("isSpecial", x.isSpecial() ? 1 : 0, special() ? 1 : 0);
        compareCounts();
    }

    private void compareCuts(boolean[][] due) {
        int[] want = {-1, -1, -1, -1};
        int n = text.length();
        for (int length = 0; length <= n; length++) {
            if (due[0][length]) {
                want[0] = want[0] < 0 ? length : want[0];
                want[1] = length;
            }
            if (due[n - length][n]) {
                want[2] = want[2] < 0 ? length : want[2];
                want[3] = length;
            }
        }
        compare("shortest beginning", x.cut(false, false), want[0]);
        compare("longest beginning", x.cut(false, true), want[1]);
        compare("shortest end", x.cut(true, false), want[2]);
        compare("longest end", x.cut(true, true), want[3]);
    }

    private void compareCounts() {
        int quotes = 0;
        sets = 0;
        for (int i = 0; i < signs.length; i++) {
            quotes += quoted[i] ? 1 : 0;
            if (plain(i, '[') && setAt(i) > i) {
                sets++;
            }
        }
        compare("count 0", x.count(0), text.length());
        compare("count 1", x.count(1), signs.length);
        compare("count 2", x.count(2), quotes);
        compare("count 3", x.count(3), sets);
    }

    private void fillText(Random random) {
        for (int at = 0; at < text.length(); ) {
            int n = Math.min(random.nextInt(9), text.length() - at);
            long chars = random.nextLong();
            for (int k = 0; k < n; k++) {
                chars = chars << 8 | text.charAt(at + k);
            }
            at += n;
            compare("text", x.text(chars, n), at);
        }
    }

    private void fillPattern(Random random) {
        for (int at = 0; at < signs.length; ) {
            int n = Math.min(random.nextInt(9), signs.length - at);
            long chars = random.nextLong();
            int bits = random.nextInt() << n;
            for (int k = 0; k < n; k++) {
                chars = chars << 8 | signs[at + k];
                bits |= quoted[at + k] ? 1 << k : 0;
            }
            at += n;
            compare("pattern", x.pattern(chars, n, bits), at);
        }
    }

    private boolean plain(int i, char sign) {
        return i < signs.length && !quoted[i] && signs[i] == sign;
    }

    private boolean special() {
        boolean found = false;
        for (int i = 0; i < signs.length; i++) {
            found |= !quoted[i] && "*?[".indexOf(signs[i]) >= 0;
        }
        return found;
    }

    private String regex() {
        StringBuilder made = new StringBuilder();
        for (int i = 0; i < signs.length; i++) {
            if (plain(i, '*')) {
                made.append(".*");
            } else if (plain(i, '?')) {
                made.append('.');
            } else if (plain(i, '[') && setAt(i) > i) {
                made.append(setRegex(i));
                i = setAt(i);
            } else {
                made.append(code(signs[i]));
            }
        }
        return made.toString();
    }

    // Works on a text in which each ] that can't close is hidden, so that indexOf finds the close.
    private int setAt(int open) {
        StringBuilder shown = new StringBuilder();
        for (int i = 0; i < signs.length; i++) {
            shown.append(quoted[i] ? 'q' : signs[i]);
        }
        int first = shown.indexOf("!", open) == open + 1 ? open + 2 : open + 1;
        if (first < shown.length()) {
            shown.setCharAt(first, 'q');
        }
        return shown.indexOf("]", first);
    }

    private String setRegex(int open) {
        boolean turned = plain(open + 1, '!');
        boolean[] in = new boolean[256];
        int close = setAt(open);
        int i = turned ? open + 2 : open + 1;
        while (i < close) {
            if (plain(i + 1, '-') && i + 2 != close) {
                for (int c = signs[i]; c <= signs[i + 2]; c++) {
                    in[c] = true;
                }
                i += 3;
            } else {
                in[signs[i]] = true;
                i++;
            }
        }
        StringBuilder made = new StringBuilder("(?:(?!)");
        for (int c = 0; c < 256; c++) {
            // Only what a text of this test may hold has to be told.
            if (in[c] != turned && TEXT_SIGNS.indexOf(c) >= 0) {
                made.append('|').append(code(c));
            }
        }
        return made.append(')').toString();
    }

    private static String code(int c) {
        return String.format("\\x%02x", c);
    }

    private void compare(String what, int got, int want) {
        if (got != want) {
            wrong++;
            if (wrong <= 20) {
                System.out.println(regex() + " on " + text + ": " + what + " answered " + got
                        + ", due is " + want);
            }
        }
    }
}
