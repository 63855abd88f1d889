/**
 * A matcher for patterns of names and texts as shells have them: * any row of characters,
 * ? one, [ ] one of some.
 */
public final class NamePattern {
    public static final int NONE = -1;

    private static final int TEXT_LIMIT = 400;
    private static final int PATTERN_LIMIT = 200;
    private static final int BYTES_IN_A_CALL = 8;

    private final int[] textChars;
    private int textLength;
    private final int[] patternChars;
    private final boolean[] quotedChars;
    private int patternLength;

    /**
     * For each place j of the text: where a piece of it begins that ends before j and matches the
     * pattern as far as it has been read; NONE when no piece does. One row, made once, is enough,
     * because each sign of the pattern changes it in place.
     */
    private final int[] starts;

    public NamePattern() {
        textChars = new int[TEXT_LIMIT];
        textLength = 0;
        patternChars = new int[PATTERN_LIMIT];
        quotedChars = new boolean[PATTERN_LIMIT];
        patternLength = 0;
        starts = new int[TEXT_LIMIT + 1];
    }

    public int text(long chars, int n) {
        if (!hasRoom(textLength, n, TEXT_LIMIT)) {
            return NONE;
        }
        for (int k = 0; k < n; k++) {
            textChars[textLength + k] = byteOf(chars, n, k);
        }
        textLength += n;
        return textLength;
    }

    public int pattern(long chars, int n, int quoted) {
        if (!hasRoom(patternLength, n, PATTERN_LIMIT)) {
            return NONE;
        }
        for (int k = 0; k < n; k++) {
            patternChars[patternLength + k] = byteOf(chars, n, k);
            quotedChars[patternLength + k] = ((quoted >>> k) & 1) == 1;
        }
        patternLength += n;
        return patternLength;
    }

    public int clear() {
        int before = textLength;
        textLength = 0;
        patternLength = 0;
        return before;
    }

    public boolean matches() {
        return pieceMatches(0, textLength);
    }

    public boolean part(int from, int to) throws IndexOutOfBoundsException {
        if (from < 0 || to < from || to > textLength) {
            throw new IndexOutOfBoundsException("no such part of the text");
        }
        return pieceMatches(from, to);
    }

    public int cut(boolean end, boolean longest) {
        return end ? matchingEnd(longest) : matchingBeginning(longest);
    }

    public boolean isSpecial() {
        for (int at = 0; at < patternLength; at++) {
            if (isUnquoted(at, '*') || isUnquoted(at, '?') || isUnquoted(at, '[')) {
                return true;
            }
        }
        return false;
    }

    public int count(int what) {
        switch (what) {
            case 0:
                return textLength;
            case 1:
                return patternLength;
            case 2:
                return quotedCount();
            case 3:
                return setCount();
            default:
                return NONE;
        }
    }

    // The n is tested first, so that the sum can't wrap around.
    private static boolean hasRoom(int length, int n, int limit) {
        return n >= 0 && n <= BYTES_IN_A_CALL && length + n <= limit;
    }

    private static int byteOf(long chars, int n, int k) {
        return (int) ((chars >>> (8 * (n - 1 - k))) & 255L);
    }

    private int quotedCount() {
        int found = 0;
        for (int at = 0; at < patternLength; at++) {
            if (quotedChars[at]) {
                found++;
            }
        }
        return found;
    }

    private int setCount() {
        int found = 0;
        for (int at = 0; at < patternLength; at++) {
            if (closeOf(at) != NONE) {
                found++;
            }
        }
        return found;
    }

    private boolean pieceMatches(int from, int to) {
        startOnlyAt(from, to);
        readPattern(from, to, false);
        return starts[to] != NONE;
    }

    private int matchingBeginning(boolean longest) {
        startOnlyAt(0, textLength);
        readPattern(0, textLength, false);
        int found = NONE;
        for (int length = 0; length <= textLength; length++) {
            if (starts[length] != NONE && (longest || found == NONE)) {
                found = length;
            }
        }
        return found;
    }

    private int matchingEnd(boolean longest) {
        startAnywhere();
        readPattern(0, textLength, longest);
        int start = starts[textLength];
        return start == NONE ? NONE : textLength - start;
    }

    private void startOnlyAt(int from, int to) {
        starts[from] = from;
        for (int j = from + 1; j <= to; j++) {
            starts[j] = NONE;
        }
    }

    private void startAnywhere() {
        for (int j = 0; j <= textLength; j++) {
            starts[j] = j;
        }
    }

    private void readPattern(int from, int to, boolean earliest) {
        int at = 0;
        while (at < patternLength) {
            int close = closeOf(at);
            if (isUnquoted(at, '*')) {
                takeAnyRow(from, to, earliest);
            } else {
                takeOne(from, to, at, close);
            }
            // A set is one sign: what stands in it is not read again as signs of its own.
            at = Math.max(at, close) + 1;
        }
    }

    private void takeAnyRow(int from, int to, boolean earliest) {
        for (int j = from + 1; j <= to; j++) {
            starts[j] = better(starts[j - 1], starts[j], earliest);
        }
    }

    private static int better(int one, int other, boolean earliest) {
        if (one == NONE || other == NONE) {
            return one == NONE ? other : one;
        }
        return earliest ? Math.min(one, other) : Math.max(one, other);
    }

    // Goes from the right, because each place needs its left neighbour as it was before.
    private void takeOne(int from, int to, int at, int close) {
        for (int j = to; j > from; j--) {
            boolean goesOn = starts[j - 1] != NONE && fits(textChars[j - 1], at, close);
            starts[j] = goesOn ? starts[j - 1] : NONE;
        }
        starts[from] = NONE;
    }

    private boolean fits(int c, int at, int close) {
        if (close != NONE) {
            boolean turned = isUnquoted(at + 1, '!');
            return isMember(c, firstMember(at), close) != turned;
        }
        return isUnquoted(at, '?') || patternChars[at] == c;
    }

    /** Where the set that begins at this place is closed; NONE when no set begins there. */
    private int closeOf(int open) {
        if (!isUnquoted(open, '[')) {
            return NONE;
        }
        // The first member is passed over, because a ] there closes nothing.
        for (int at = firstMember(open) + 1; at < patternLength; at++) {
            if (isUnquoted(at, ']')) {
                return at;
            }
        }
        return NONE;
    }

    private int firstMember(int open) {
        return isUnquoted(open + 1, '!') ? open + 2 : open + 1;
    }

    private boolean isMember(int c, int first, int close) {
        int at = first;
        while (at < close) {
            boolean range = at + 2 < close && isUnquoted(at + 1, '-');
            int last = range ? at + 2 : at;
            if (c >= patternChars[at] && c <= patternChars[last]) {
                return true;
            }
            at = last + 1;
        }
        return false;
    }

    private boolean isUnquoted(int at, char sign) {
        return at >= 0 && at < patternLength && !quotedChars[at] && patternChars[at] == sign;
    }
}
