import java.util.BitSet;
import java.util.Random;

/**
 * Long runs of mixed calls, wrong ones among them, on objects that fill up to their limits; each
 * answer is compared with that of a model which follows the document's words without any thrift.
 */
public final class NamePatternModelTest extends Checks {
    private static final int RUNS = 400;
    private static final int CALLS = 512;
    private static final String[] PIECES = {
        "a", "a", "b", "?", "*", "[ab]", "[!b]", "[a-c]", "[c-a]", "[a-]", "[!A-]", "[]-a]",
        "[!", "[]", "]", "[", "-", "!", "\u00e1", "[\u0080-\u00ff]",
    };
    private static final String OTHERS = "bcB-]![\u00e1\u00ff\u0000";

    private final Random random;
    private final NamePattern x = new NamePattern();
    private final Model model = new Model();
    private final int clearsInAThousand;
    private final int quotesInAHundred;
    private final int othersInAHundred;
    private final int starsInAHundred;
    private final int piecesInAHundred;

    private NamePatternModelTest(Random random) {
        this.random = random;
        clearsInAThousand = new int[] {0, 10, 150}[random.nextInt(3)];
        quotesInAHundred = new int[] {0, 15, 50}[random.nextInt(3)];
        othersInAHundred = new int[] {0, 2, 40}[random.nextInt(3)];
        starsInAHundred = new int[] {0, 10, 50}[random.nextInt(3)];
        piecesInAHundred = new int[] {2, 20, 100}[random.nextInt(3)];
    }

    public static void main(String[] args) {
        // A fixed seed, so that each run of the test asks the same.
        Random random = new Random(20261116L);
        for (int run = 1; run <= RUNS; run++) {
            new NamePatternModelTest(random).run(run);
        }
        Seen.mustBeMany();
        end("all answers are as the model has them");
    }

    private void run(int run) {
        for (int call = 1; call <= CALLS; call++) {
            sentence("run " + run + ", call " + call);
            if (random.nextInt(1000) < clearsInAThousand) {
                due("clear", x.clear(), model.clear());
            } else {
                fillOrAsk(random.nextInt(10));
            }
        }
    }

    private void fillOrAsk(int kind) {
        switch (kind) {
            case 0, 1, 2 -> text();
            case 3, 4 -> pattern();
            case 5 -> due("matches", x.matches(), Seen.match(model.fits(0, model.text.length())));
            case 6 -> part();
            case 7 -> cut(random.nextBoolean(), random.nextBoolean());
            case 8 -> due("isSpecial", x.isSpecial(), model.isSpecial());
            default -> count(random.nextInt(7) - 1);
        }
    }

    private void text() {
        long chars = 0;
        int n = lengthOrWrong();
        for (int k = 0; k < 8; k++) {
            chars = chars << 8 | (chance(othersInAHundred) ? other() : 'a');
        }
        due("text " + chars + ", " + n, x.text(chars, n), Seen.filled(model.addText(chars, n), 400));
    }

    private void pattern() {
        StringBuilder signs = new StringBuilder();
        int quoted = 0;
        while (signs.length() < 8) {
            signs.append(chance(starsInAHundred) ? "*" : pieceOrA());
        }
        for (int k = 0; k < 32; k++) {
            quoted |= chance(quotesInAHundred) ? 1 << k : 0;
        }
        int n = lengthOrWrong();
        long chars = packed(signs.toString());
        due("pattern " + chars + ", " + n + ", " + quoted, x.pattern(chars, n, quoted),
                Seen.filled(model.addPattern(chars, n, quoted), 200));
    }

    private char other() {
        return OTHERS.charAt(random.nextInt(OTHERS.length()));
    }

    private String pieceOrA() {
        return chance(piecesInAHundred) ? PIECES[random.nextInt(PIECES.length)] : "a";
    }

    private boolean chance(int inAHundred) {
        return random.nextInt(100) < inAHundred;
    }

    private int lengthOrWrong() {
        return chance(5) ? random.nextInt() >> random.nextInt(31) : random.nextInt(9);
    }

    private void part() {
        int length = model.text.length();
        int from = random.nextInt(length + 3) - 1;
        int to = random.nextInt(length + 3) - 1;
        if (from < 0 || to < from || to > length) {
            dueNoPart(x, from, to);
        } else {
            duePart(x, from, to, Seen.match(model.fits(from, to)));
        }
    }

    private void cut(boolean end, boolean longest) {
        due("cut " + end + ", " + longest, x.cut(end, longest), Seen.cut(model.cut(end, longest)));
    }

    private void count(int what) {
        due("count " + what, x.count(what), model.count(what));
    }

    /** How often each kind of answer was due: a test that never meets a limit would tell little. */
    private static final class Seen {
        private static int matches = 0;
        private static int noMatches = 0;
        private static int cuts = 0;
        private static int noCuts = 0;
        private static int full = 0;
        private static int refused = 0;

        static boolean match(boolean due) {
            matches += due ? 1 : 0;
            noMatches += due ? 0 : 1;
            return due;
        }

        static int cut(int due) {
            cuts += due > 0 ? 1 : 0;
            noCuts += due == NONE ? 1 : 0;
            return due;
        }

        static int filled(int due, int limit) {
            full += due == limit ? 1 : 0;
            refused += due == NONE ? 1 : 0;
            return due;
        }

        static void mustBeMany() {
            sentence("how often each kind of answer was due, a hundred times at least");
            int[] seen = {matches, noMatches, cuts, noCuts, full, refused};
            for (int kind = 0; kind < seen.length; kind++) {
                due("kind " + kind + ", seen " + seen[kind] + ", is enough", seen[kind] >= 100, true);
            }
        }
    }

    /** The document's words: each piece of the text is tried by itself, each set written out. */
    private static final class Model {
        final StringBuilder text = new StringBuilder();
        private final StringBuilder signs = new StringBuilder();
        private final StringBuilder quotes = new StringBuilder();

        int addText(long chars, int n) {
            return add(text, chars, n, 400);
        }

        int addPattern(long chars, int n, int quoted) {
            int answer = add(signs, chars, n, 200);
            while (quotes.length() < signs.length()) {
                int k = quotes.length() - (signs.length() - n);
                quotes.append((quoted & (1L << k)) != 0 ? 'q' : 'u');
            }
            return answer;
        }

        private static int add(StringBuilder row, long chars, int n, int limit) {
            if (n < 0 || n > 8 || row.length() + n > limit) {
                return NONE;
            }
            StringBuilder lowestFirst = new StringBuilder();
            long rest = chars;
            for (int k = 0; k < n; k++) {
                lowestFirst.append((char) Math.floorMod(rest, 256L));
                rest = Math.floorDiv(rest, 256L);
            }
            return row.append(lowestFirst.reverse()).length();
        }

        int clear() {
            int before = text.length();
            text.setLength(0);
            signs.setLength(0);
            quotes.setLength(0);
            return before;
        }

        boolean isSpecial() {
            String plain = plainSigns();
            return plain.contains("*") || plain.contains("?") || plain.contains("[");
        }

        int count(int what) {
            return switch (what) {
                case 0 -> text.length();
                case 1 -> signs.length();
                case 2 -> quotes.toString().replace("u", "").length();
                case 3 -> sets();
                default -> NONE;
            };
        }

        private int sets() {
            int found = 0;
            String plain = plainSigns();
            for (int at = plain.indexOf('['); at >= 0; at = plain.indexOf('[', at + 1)) {
                found += closeOf(plain, at) > 0 ? 1 : 0;
            }
            return found;
        }

        boolean fits(int from, int to) {
            return endsOfPiecesFrom(from).get(to);
        }

        int cut(boolean end, boolean longest) {
            BitSet lengths = new BitSet();
            if (end) {
                for (int length = 0; length <= text.length(); length++) {
                    lengths.set(length, fits(text.length() - length, text.length()));
                }
            } else {
                lengths = endsOfPiecesFrom(0);
            }
            return longest ? lengths.length() - 1 : lengths.nextSetBit(0);
        }

        private BitSet endsOfPiecesFrom(int from) {
            String plain = plainSigns();
            BitSet ends = new BitSet();
            ends.set(from);
            for (int at = 0; at < plain.length() && !ends.isEmpty(); at++) {
                if (plain.charAt(at) == '*') {
                    ends.set(ends.nextSetBit(0), text.length() + 1);
                    continue;
                }
                BitSet taken = new BitSet();
                taken.set(0, 256, plain.charAt(at) == '?');
                taken.set(signs.charAt(at));
                int close = plain.charAt(at) == '[' ? closeOf(plain, at) : NONE;
                if (close > 0) {
                    taken = taken(plain, at, close);
                    at = close;
                }
                ends = oneFurther(ends, taken);
            }
            return ends;
        }

        private BitSet oneFurther(BitSet ends, BitSet taken) {
            BitSet further = new BitSet();
            for (int j = ends.nextSetBit(0); j >= 0 && j < text.length(); j = ends.nextSetBit(j + 1)) {
                further.set(j + 1, taken.get(text.charAt(j)));
            }
            return further;
        }

        private static int firstMember(String plain, int open) {
            return plain.startsWith("!", open + 1) ? open + 2 : open + 1;
        }

        private static int closeOf(String plain, int open) {
            return plain.indexOf(']', firstMember(plain, open) + 1);
        }

        private BitSet taken(String plain, int open, int close) {
            int first = firstMember(plain, open);
            String rest = signs.substring(first, close);
            String plainRest = plain.substring(first, close);
            BitSet members = new BitSet();
            while (!rest.isEmpty()) {
                boolean range = rest.length() >= 3 && plainRest.charAt(1) == '-';
                char last = rest.charAt(range ? 2 : 0);
                for (int c = rest.charAt(0); c <= last; c++) {
                    members.set(c);
                }
                rest = rest.substring(range ? 3 : 1);
                plainRest = plainRest.substring(range ? 3 : 1);
            }
            if (first == open + 2) {
                members.flip(0, 256);
            }
            return members;
        }

        // A quoted character is shown as one that stands in no pattern, so that it means nothing.
        private String plainSigns() {
            StringBuilder shown = new StringBuilder(signs);
            for (int at = 0; at < shown.length(); at++) {
                if (quotes.charAt(at) == 'q') {
                    shown.setCharAt(at, '\uffff');
                }
            }
            return shown.toString();
        }
    }
}
