/** Each sentence of the document's promises that names a boundary, by a test of its own. */
public final class NamePatternBoundaryTest extends Checks {
    private static final int[] WRONG_N = {
        -1, 9, -8, -9, 10, 255, 256, 264, -255, -256, 65536,
        Integer.MIN_VALUE, Integer.MIN_VALUE + 1, Integer.MIN_VALUE + 8,
        Integer.MAX_VALUE, Integer.MAX_VALUE - 7, Integer.MAX_VALUE - 399,
    };
    private static final String EIGHT_LEAST = "\u0080\u0000\u0000\u0000\u0000\u0000\u0000\u0000";
    private static final String EIGHT_GREATEST = "\u007f\u00ff\u00ff\u00ff\u00ff\u00ff\u00ff\u00ff";

    public static void main(String[] args) {
        newObject();
        newObjectsShareNothing();
        text();
        pattern();
        clear();
        matches();
        part();
        cut();
        special();
        count();
        askingChangesNothing();
        all512Calls();
        end("all boundaries of the promises hold");
    }

    private static void newObject() {
        sentence("1: Empty text and pattern");
        NamePattern x = new NamePattern();
        dueCounts(x, 0, 0, 0, 0);
        due("matches", x.matches(), true);
        duePart(x, 0, 0, true);
        dueNoPart(x, 0, 1);
        due("shortest beginning", x.cut(false, false), 0);
        due("longest beginning", x.cut(false, true), 0);
        due("shortest end", x.cut(true, false), 0);
        due("longest end", x.cut(true, true), 0);
        due("isSpecial", x.isSpecial(), false);
        due("clear", x.clear(), 0);
    }

    private static void newObjectsShareNothing() {
        sentence("1: Empty text and pattern (also behind another object)");
        NamePattern full = made("\\*".repeat(200), "a".repeat(400));
        NamePattern x = new NamePattern();
        dueCounts(x, 0, 0, 0, 0);
        dueCounts(full, 400, 200, 200, 0);
        NamePattern one = made("a\\*", "a*");
        addPattern(x, "bc");
        addText(x, "bc");
        due("the one matches", one.matches(), true);
        due("the other matches", x.matches(), true);
        due("quoted in the one", one.count(2), 1);
    }

    private static void text() {
        textTakesTheLowestBytes();
        textTakesTheHighestFirst();
        textOfNone();
        textOfEight();
        textOfLeastAndGreatestLong();
        textComesBehind();
        textTellsHowLong();
        textRefusesOtherN();
        textRefusesOtherNInAFullText();
        textUpTo400();
        textRefusesMoreThan400();
        textHasItsOwnLimit();
    }

    private static void textTakesTheLowestBytes() {
        sentence("2: The n lowest bytes of chars");
        for (int n = 0; n <= 8; n++) {
            NamePattern x = made("hgfedcba".substring(8 - n), "");
            due("text of " + n, x.text(packed("hgfedcba"), n), n);
            due("matches with " + n, x.matches(), true);
        }
    }

    private static void textTakesTheHighestFirst() {
        sentence("2: the highest of them first");
        NamePattern x = made("ab", "");
        x.text(0x6162L, 2);
        due("matches", x.matches(), true);
        NamePattern turned = made("ba", "");
        turned.text(0x6162L, 2);
        due("matches the other way", turned.matches(), false);
    }

    private static void textOfNone() {
        sentence("2: n 0");
        NamePattern x = new NamePattern();
        due("none to none", x.text(-1L, 0), 0);
        due("length", x.count(0), 0);
        due("matches", x.matches(), true);
        addText(x, "abc");
        due("none to three", x.text(Long.MIN_VALUE, 0), 3);
        addPattern(x, "abc");
        due("matches three", x.matches(), true);
    }

    private static void textOfEight() {
        sentence("2: n 8");
        NamePattern x = made("abcdefgh", "");
        due("eight", x.text(packed("abcdefgh"), 8), 8);
        due("matches", x.matches(), true);
    }

    private static void textOfLeastAndGreatestLong() {
        sentence("2: chars the smallest and the largest long");
        NamePattern x = made(EIGHT_LEAST + EIGHT_GREATEST, "");
        due("least", x.text(Long.MIN_VALUE, 8), 8);
        due("greatest", x.text(Long.MAX_VALUE, 8), 16);
        due("matches", x.matches(), true);
        NamePattern y = made("\u00ff".repeat(9) + "\u0000\u00ff", "");
        y.text(-1L, 8);
        y.text(-1L, 1);
        y.text(Long.MIN_VALUE, 1);
        y.text(Long.MAX_VALUE, 1);
        due("matches with single bytes", y.matches(), true);
    }

    private static void textComesBehind() {
        sentence("2: come behind the text");
        NamePattern x = made("abcde", "");
        x.text(packed("ab"), 2);
        x.text(packed("c"), 1);
        x.text(packed("de"), 2);
        due("matches", x.matches(), true);
        due("length of the pattern", x.count(1), 5);
    }

    private static void textTellsHowLong() {
        sentence("2: how long it is");
        NamePattern x = made("abc", "");
        for (int length = 1; length <= 400; length++) {
            due("one more", x.text('a', 1), length);
        }
        due("count", x.count(0), 400);
    }

    private static void textRefusesOtherN() {
        sentence("2: NONE, changing nothing, when n is not 0 .. 8");
        for (int n : WRONG_N) {
            NamePattern empty = new NamePattern();
            due("n " + n + ", empty", empty.text(packed("abc"), n), NONE);
            dueCounts(empty, 0, 0, 0, 0);
            NamePattern x = made("*c\\*", "abc*");
            String before = state(x);
            due("n " + n, x.text(-1L, n), NONE);
            dueState("n " + n, x, before);
            due("n " + n + ", then one", x.text('c', 1), 5);
            addPattern(x, "c");
            due("n " + n + ", matches then", x.matches(), true);
        }
    }

    private static void textRefusesOtherNInAFullText() {
        sentence("2: NONE, changing nothing, when n is not 0 .. 8 (the text full)");
        for (int n : WRONG_N) {
            NamePattern x = made("a*z", "a".repeat(399) + "z");
            due("n " + n, x.text(0, n), NONE);
            due("length", x.count(0), 400);
            due("matches", x.matches(), true);
        }
    }

    private static void textUpTo400() {
        sentence("2: NONE when it would be longer than 400 (400 is not)");
        for (int n = 0; n <= 8; n++) {
            NamePattern x = made("*" + "z".repeat(n), "a".repeat(400 - n));
            due("400 by " + n, x.text(packed("z".repeat(n)), n), 400);
            due("length", x.count(0), 400);
            due("matches", x.matches(), true);
        }
    }

    private static void textRefusesMoreThan400() {
        sentence("2: NONE, changing nothing, when it would be longer than 400");
        for (int n = 1; n <= 8; n++) {
            for (int length = 401 - n; length <= 400; length++) {
                NamePattern x = made("*y", "a".repeat(length - 1) + "y");
                String before = state(x);
                due(length + " and " + n, x.text(packed("y".repeat(n)), n), NONE);
                dueState(length + " and " + n, x, before);
                due("up to 400", x.text(packed("yyyyyyyy"), 400 - length), 400);
                due("matches then", x.matches(), true);
            }
        }
    }

    private static void textHasItsOwnLimit() {
        sentence("2: longer than 400 (the pattern does not count)");
        NamePattern x = made("*".repeat(200), "");
        addText(x, "a".repeat(392));
        due("to 400", x.text(0, 8), 400);
        due("length of the pattern", x.count(1), 200);
    }

    private static void pattern() {
        patternTakesTheLowestBytes();
        patternTakesTheHighestFirst();
        patternOfNone();
        patternOfEight();
        patternOfLeastAndGreatestLong();
        patternComesBehind();
        patternTellsHowLong();
        patternRefusesOtherN();
        patternRefusesOtherNInAFullPattern();
        patternUpTo200();
        patternRefusesMoreThan200();
        patternHasItsOwnLimit();
        bitSaysWhetherQuoted();
        bitsOfEachCallAreItsOwn();
        otherBitsSayNothing();
        leastAndGreatestQuoted();
    }

    private static void patternTakesTheLowestBytes() {
        sentence("3: Likewise: the n lowest bytes of chars");
        for (int n = 0; n <= 8; n++) {
            NamePattern x = made("", "hgfedcba".substring(8 - n));
            due("pattern of " + n, x.pattern(packed("hgfedcba"), n, 0), n);
            due("matches with " + n, x.matches(), true);
        }
    }

    private static void patternTakesTheHighestFirst() {
        sentence("3: Likewise: the highest of them first");
        NamePattern x = made("", "aXYb");
        x.pattern(packed("a*b"), 3, 0);
        due("matches", x.matches(), true);
        NamePattern turned = made("", "ba");
        turned.pattern(0x6162L, 2, 0);
        due("matches the other way", turned.matches(), false);
    }

    private static void patternOfNone() {
        sentence("3: Likewise: n 0");
        NamePattern x = new NamePattern();
        due("none to none", x.pattern(-1L, 0, -1), 0);
        dueCounts(x, 0, 0, 0, 0);
        addPattern(x, "a*");
        due("none to two", x.pattern(Long.MAX_VALUE, 0, Integer.MAX_VALUE), 2);
        dueCounts(x, 0, 2, 0, 0);
        addText(x, "abc");
        due("matches", x.matches(), true);
    }

    private static void patternOfEight() {
        sentence("3: Likewise: n 8");
        NamePattern x = made("", "abcdefgh");
        due("eight", x.pattern(packed("abcdefgh"), 8, 0), 8);
        due("matches", x.matches(), true);
    }

    private static void patternOfLeastAndGreatestLong() {
        sentence("3: Likewise: chars the smallest and the largest long");
        NamePattern x = made("", EIGHT_LEAST + EIGHT_GREATEST);
        due("least", x.pattern(Long.MIN_VALUE, 8, 0), 8);
        due("greatest", x.pattern(Long.MAX_VALUE, 8, 0), 16);
        due("matches", x.matches(), true);
        NamePattern y = made("", "\u00ff\u0000\u00ff");
        y.pattern(-1L, 1, 0);
        y.pattern(Long.MIN_VALUE, 1, 0);
        y.pattern(Long.MAX_VALUE, 1, 0);
        due("matches with single bytes", y.matches(), true);
    }

    private static void patternComesBehind() {
        sentence("3: Likewise behind the pattern");
        NamePattern x = made("", "abcde");
        x.pattern(packed("ab"), 2, 0);
        x.pattern(packed("c"), 1, 0);
        x.pattern(packed("de"), 2, 0);
        due("matches", x.matches(), true);
        due("length of the text", x.count(0), 5);
        NamePattern set = made("", "b");
        set.pattern('[', 1, 0);
        set.pattern(packed("!a"), 2, 0);
        set.pattern(']', 1, 0);
        due("a set over three calls", set.matches(), true);
    }

    private static void patternTellsHowLong() {
        sentence("3: Likewise: how long it is");
        NamePattern x = made("", "abc");
        for (int length = 1; length <= 200; length++) {
            due("one more", x.pattern('a', 1, 0), length);
        }
        due("count", x.count(1), 200);
    }

    private static void patternRefusesOtherN() {
        sentence("3: Likewise: NONE, changing nothing, when n is not 0 .. 8");
        for (int n : WRONG_N) {
            NamePattern empty = new NamePattern();
            due("n " + n + ", empty", empty.pattern(packed("abc"), n, -1), NONE);
            dueCounts(empty, 0, 0, 0, 0);
            NamePattern x = made("*[cd]\\*", "abc*");
            String before = state(x);
            due("n " + n, x.pattern(-1L, n, -1), NONE);
            dueState("n " + n, x, before);
            due("n " + n + ", then one", x.pattern('*', 1, 0), 7);
            due("n " + n + ", quoted then", x.count(2), 1);
        }
    }

    private static void patternRefusesOtherNInAFullPattern() {
        sentence("3: Likewise: NONE, changing nothing, when n is not 0 .. 8 (the pattern full)");
        for (int n : WRONG_N) {
            NamePattern x = made("*".repeat(199) + "z", "abz");
            due("n " + n, x.pattern(0, n, -1), NONE);
            dueCounts(x, 3, 200, 0, 0);
            due("matches", x.matches(), true);
        }
    }

    private static void patternUpTo200() {
        sentence("3: Likewise (200): NONE when it would be longer (200 is not)");
        for (int n = 0; n <= 8; n++) {
            NamePattern x = made("a".repeat(200 - n), "a".repeat(200 - n) + "z".repeat(n));
            due("200 by " + n, x.pattern(packed("z".repeat(n)), n, 0), 200);
            due("length", x.count(1), 200);
            due("matches", x.matches(), true);
        }
    }

    private static void patternRefusesMoreThan200() {
        sentence("3: Likewise (200): NONE, changing nothing, when it would be longer");
        for (int n = 1; n <= 8; n++) {
            for (int length = 201 - n; length <= 200; length++) {
                NamePattern x = made("*".repeat(length - 2) + "\\*y", "ab*y");
                String before = state(x);
                due(length + " and " + n, x.pattern(packed("y".repeat(n)), n, -1), NONE);
                dueState(length + " and " + n, x, before);
                due("up to 200", x.pattern(packed("********"), 200 - length, 0), 200);
                due("quoted then", x.count(2), 1);
                due("matches then", x.matches(), true);
            }
        }
    }

    private static void patternHasItsOwnLimit() {
        sentence("3: Likewise (200) (the text does not count)");
        NamePattern x = made("a".repeat(192), "a".repeat(400));
        due("to 200", x.pattern(packed("aaaaaaaa"), 8, 0), 200);
        due("length of the text", x.count(0), 400);
    }

    private static void bitSaysWhetherQuoted() {
        sentence("3: bit k of quoted says whether the k-th of these n (0 the first) is quoted");
        for (int n = 1; n <= 8; n++) {
            for (int k = 0; k < n; k++) {
                NamePattern x = made("", "x".repeat(k) + "?" + "x".repeat(n - 1 - k));
                x.pattern(packed("?".repeat(n)), n, 1 << k);
                due("bit " + k + " of " + n + " matches", x.matches(), true);
                due("bit " + k + " of " + n + " quotes one", x.count(2), 1);
                NamePattern plain = made("", "x".repeat(n));
                plain.pattern(packed("?".repeat(n)), n, 1 << k);
                due("bit " + k + " of " + n + " matches x", plain.matches(), false);
            }
        }
    }

    private static void bitsOfEachCallAreItsOwn() {
        sentence("3: the k-th of these n (not of the whole pattern)");
        NamePattern x = made("", "a?b?");
        x.pattern(packed("??"), 2, 2);
        x.pattern(packed("??"), 2, 2);
        due("matches", x.matches(), true);
        due("quoted", x.count(2), 2);
        x.clear();
        addText(x, "aa?");
        x.pattern(packed("??"), 2, 0);
        x.pattern(packed("?"), 1, 1);
        due("matches with the third quoted", x.matches(), true);
    }

    private static void otherBitsSayNothing() {
        sentence("3: bit k for the k-th of these n (there is no n-th)");
        for (int n = 0; n <= 8; n++) {
            NamePattern x = made("", "x".repeat(n + 1));
            x.pattern(packed("?".repeat(n)), n, -1 << n);
            due("quoted by bits from " + n, x.count(2), 0);
            x.pattern('?', 1, 0);
            due("quoted behind bits from " + n, x.count(2), 0);
            due("matches", x.matches(), true);
        }
        for (int k = 1; k <= 31; k++) {
            NamePattern x = new NamePattern();
            x.pattern('*', 1, 1 << k);
            due("quoted by bit " + k, x.count(2), 0);
        }
    }

    private static void leastAndGreatestQuoted() {
        sentence("3: quoted the smallest and the largest int");
        NamePattern x = new NamePattern();
        x.pattern(packed("********"), 8, Integer.MIN_VALUE);
        due("least quotes", x.count(2), 0);
        x.pattern(packed("********"), 8, Integer.MAX_VALUE);
        due("greatest quotes", x.count(2), 8);
        x.pattern(packed("********"), 8, -1);
        due("all bits quote", x.count(2), 16);
        x.pattern(packed("********"), 8, 0);
        due("no bit quotes", x.count(2), 16);
    }

    private static void clear() {
        clearEmpty();
        clearFull();
        clearLeavesNothing();
        clearTellsTheTextsLength();
        clearMakesRoom();
        clearForgetsQuotes();
        clearForgetsTheClose();
    }

    private static void clearEmpty() {
        sentence("4: how long the text was (empty)");
        NamePattern x = new NamePattern();
        due("of a new object", x.clear(), 0);
        due("again", x.clear(), 0);
        dueCounts(x, 0, 0, 0, 0);
        addPattern(x, "abc");
        due("with a pattern alone", x.clear(), 0);
    }

    private static void clearFull() {
        sentence("4: how long the text was (full)");
        NamePattern x = made("a".repeat(200), "a".repeat(400));
        due("full", x.clear(), 400);
        due("again", x.clear(), 0);
    }

    private static void clearLeavesNothing() {
        sentence("4: Both are empty then");
        NamePattern x = made("\\*\\[[a]*", "some text");
        x.clear();
        dueCounts(x, 0, 0, 0, 0);
        due("isSpecial", x.isSpecial(), false);
        due("matches", x.matches(), true);
        due("longest beginning", x.cut(false, true), 0);
        due("longest end", x.cut(true, true), 0);
        duePart(x, 0, 0, true);
        dueNoPart(x, 0, 1);
        dueNoPart(x, 9, 9);
        addText(x, "a");
        due("matches nothing but nothing", x.matches(), false);
    }

    private static void clearTellsTheTextsLength() {
        sentence("4: how long the text was");
        NamePattern x = made("abcde", "abc");
        due("the text's length", x.clear(), 3);
        addText(x, "a");
        due("one", x.clear(), 1);
    }

    private static void clearMakesRoom() {
        sentence("4: Both are empty then (with all their room)");
        NamePattern x = made("a".repeat(200), "a".repeat(400));
        x.clear();
        addText(x, "b".repeat(392));
        due("text to 400", x.text(packed("bbbbbbbb"), 8), 400);
        due("text beyond", x.text('b', 1), NONE);
        addPattern(x, "*".repeat(192));
        due("pattern to 200", x.pattern(packed("*******b"), 8, 0), 200);
        due("pattern beyond", x.pattern('b', 1, 0), NONE);
        due("matches", x.matches(), true);
    }

    private static void clearForgetsQuotes() {
        sentence("4: Both are empty then (no quote stays)");
        NamePattern x = made("\\*\\*\\*", "");
        x.clear();
        addPattern(x, "**");
        addText(x, "ab");
        due("quoted", x.count(2), 0);
        due("matches", x.matches(), true);
    }

    private static void clearForgetsTheClose() {
        sentence("4: Both are empty then (no ] stays)");
        NamePattern x = made("[a]]", "");
        x.clear();
        addPattern(x, "[a");
        addText(x, "[a");
        due("sets", x.count(3), 0);
        due("matches", x.matches(), true);
    }

    private static void matches() {
        matchesTheWholeText();
        matchesEmpty();
        matchesFull();
        matchesWithoutAnswerFromBefore();
    }

    private static void matchesTheWholeText() {
        sentence("5: Whether the whole text matches");
        dueMatch("abc", "abc", true);
        dueMatch("ab", "abc", false);
        dueMatch("bc", "abc", false);
        dueMatch("b", "abc", false);
        dueMatch("abcd", "abc", false);
        dueMatch("a?", "abc", false);
        dueMatch("?c", "abc", false);
        dueMatch("[a]", "aa", false);
    }

    private static void matchesEmpty() {
        sentence("5: Whether the whole text matches (empty)");
        dueMatch("", "", true);
        dueMatch("", "a", false);
        dueMatch("", "a".repeat(400), false);
        dueMatch("a", "", false);
        dueMatch("?", "", false);
        dueMatch("[a]", "", false);
        dueMatch("[!a]", "", false);
        dueMatch("*", "", true);
        dueMatch("*?", "", false);
    }

    private static void matchesFull() {
        sentence("5: Whether the whole text matches (full)");
        String text = "a".repeat(399) + "b";
        dueMatch("*b", text, true);
        dueMatch("*a", text, false);
        dueMatch("*a".repeat(99) + "*b", text, true);
        dueMatch("*a".repeat(100), text, false);
        dueMatch("*".repeat(199) + "b", text, true);
        dueMatch("?".repeat(200), text, false);
        dueMatch("?".repeat(199) + "*", text, true);
        dueMatch("*[b]".repeat(50), text, false);
        dueMatch("*[a]".repeat(50), text, false);
        dueMatch("*[ab]".repeat(40), text, true);
    }

    private static void matchesWithoutAnswerFromBefore() {
        sentence("5: Whether the whole text matches (as it is now)");
        NamePattern x = made("ab", "a");
        due("too short", x.matches(), false);
        addText(x, "b");
        due("right", x.matches(), true);
        addText(x, "b");
        due("too long", x.matches(), false);
        addPattern(x, "?");
        due("right again", x.matches(), true);
    }

    private static void part() {
        partIsFromToBeforeTo();
        partOfNothing();
        partIsTheWhole();
        partRefusesFromBelow0();
        partRefusesToBelowFrom();
        partRefusesToAboveTheLength();
        partOfAnEmptyText();
        partOfAFullText();
        partLooksAtTheTextsLength();
        partRefusedChangesNothing();
    }

    private static void partIsFromToBeforeTo() {
        sentence("6: Whether the text's characters from .. to - 1 match");
        NamePattern x = made("b?", "abcd");
        duePart(x, 1, 3, true);
        duePart(x, 1, 2, false);
        duePart(x, 1, 4, false);
        duePart(x, 0, 2, false);
        duePart(x, 0, 3, false);
        duePart(x, 2, 4, false);
        NamePattern last = made("d", "abcd");
        duePart(last, 3, 4, true);
        duePart(last, 2, 3, false);
        NamePattern first = made("a", "abcd");
        duePart(first, 0, 1, true);
        duePart(first, 1, 2, false);
    }

    private static void partOfNothing() {
        sentence("6: from .. to - 1 (from equal to to)");
        for (int at = 0; at <= 3; at++) {
            duePart(made("*", "abc"), at, at, true);
            duePart(made("", "abc"), at, at, true);
            duePart(made("?", "abc"), at, at, false);
            duePart(made("[!x]", "abc"), at, at, false);
        }
        dueNoPart(made("*", "abc"), 4, 4);
        dueNoPart(made("*", "abc"), -1, -1);
    }

    private static void partIsTheWhole() {
        sentence("6: from .. to - 1 (the whole text)");
        NamePattern x = made("a*c", "abc");
        duePart(x, 0, 3, true);
        duePart(x, 0, 2, false);
        duePart(x, 1, 3, false);
    }

    private static void partRefusesFromBelow0() {
        sentence("6: IndexOutOfBoundsException when from is below 0");
        NamePattern x = made("*", "abc");
        dueNoPart(x, -1, 0);
        dueNoPart(x, -1, 3);
        dueNoPart(x, -1, -1);
        dueNoPart(x, Integer.MIN_VALUE, 0);
        dueNoPart(x, Integer.MIN_VALUE, 3);
        dueNoPart(x, Integer.MIN_VALUE, Integer.MIN_VALUE);
        dueNoPart(x, Integer.MIN_VALUE, Integer.MAX_VALUE);
        duePart(x, 0, 0, true);
    }

    private static void partRefusesToBelowFrom() {
        sentence("6: IndexOutOfBoundsException when to is below from");
        NamePattern x = made("*", "abc");
        dueNoPart(x, 1, 0);
        dueNoPart(x, 3, 2);
        dueNoPart(x, 3, 0);
        dueNoPart(x, 0, -1);
        dueNoPart(x, 0, Integer.MIN_VALUE);
        dueNoPart(x, 4, 3);
        dueNoPart(x, Integer.MAX_VALUE, 3);
        dueNoPart(x, Integer.MAX_VALUE, Integer.MIN_VALUE);
        duePart(x, 3, 3, true);
    }

    private static void partRefusesToAboveTheLength() {
        sentence("6: IndexOutOfBoundsException when to is above its length");
        NamePattern x = made("*", "abc");
        dueNoPart(x, 0, 4);
        dueNoPart(x, 3, 4);
        dueNoPart(x, 4, 4);
        dueNoPart(x, 0, 400);
        dueNoPart(x, 0, Integer.MAX_VALUE);
        dueNoPart(x, Integer.MAX_VALUE, Integer.MAX_VALUE);
        duePart(x, 0, 3, true);
    }

    private static void partOfAnEmptyText() {
        sentence("6: above its length (0)");
        NamePattern x = made("*", "");
        duePart(x, 0, 0, true);
        dueNoPart(x, 0, 1);
        dueNoPart(x, 1, 1);
        dueNoPart(x, 1, 0);
        dueNoPart(x, -1, 0);
    }

    private static void partOfAFullText() {
        sentence("6: above its length (400)");
        NamePattern x = made("*b", "a".repeat(399) + "b");
        duePart(x, 0, 400, true);
        duePart(x, 399, 400, true);
        duePart(x, 0, 399, false);
        duePart(x, 400, 400, false);
        dueNoPart(x, 400, 401);
        dueNoPart(x, 0, 401);
        dueNoPart(x, 401, 401);
        dueNoPart(x, 400, 399);
    }

    private static void partLooksAtTheTextsLength() {
        sentence("6: above its length (the text's, as it is now)");
        NamePattern x = made("abcdef*", "ab");
        dueNoPart(x, 0, 3);
        duePart(x, 0, 2, false);
        addText(x, "c");
        duePart(x, 0, 3, false);
        x.clear();
        dueNoPart(x, 0, 1);
        addText(x, "z");
        duePart(x, 0, 1, false);
        dueNoPart(x, 0, 2);
    }

    private static void partRefusedChangesNothing() {
        sentence("6: a refused part changes nothing");
        int[][] refused = {{-1, 0}, {2, 1}, {0, 5}, {5, 5}, {Integer.MIN_VALUE, Integer.MAX_VALUE}};
        for (int[] piece : refused) {
            NamePattern x = made("*[b-d]\\*", "abc*");
            String before = state(x);
            dueNoPart(x, piece[0], piece[1]);
            dueState("part " + piece[0] + ", " + piece[1], x, before);
            duePart(x, 1, 4, true);
        }
    }

    private static void cut() {
        cutShortestBeginning();
        cutLongestBeginning();
        cutShortestEnd();
        cutLongestEnd();
        cutOfLengthZero();
        cutOfTheWhole();
        cutWhenNoneMatches();
        cutOfAnEmptyText();
        cutOfAFullText();
        cutOfEachLength();
    }

    private static void cutShortestBeginning() {
        sentence("7: The length of the shortest beginning of the text that matches");
        due("*b of abcb", made("*b", "abcb").cut(false, false), 2);
        due("a*c of abcbc", made("a*c", "abcbc").cut(false, false), 3);
        due("?* of abc", made("?*", "abc").cut(false, false), 1);
        due("*[!a] of aabab", made("*[!a]", "aabab").cut(false, false), 3);
    }

    private static void cutLongestBeginning() {
        sentence("7: The length of the longest beginning of the text that matches");
        due("*b of abcba", made("*b", "abcba").cut(false, true), 4);
        due("a*c of abcbcb", made("a*c", "abcbcb").cut(false, true), 5);
        due("?* of abc", made("?*", "abc").cut(false, true), 3);
        due("*[!a] of aababa", made("*[!a]", "aababa").cut(false, true), 5);
    }

    private static void cutShortestEnd() {
        sentence("7: The length of the shortest end of the text that matches");
        due("b* of bcbc", made("b*", "bcbc").cut(true, false), 2);
        due("a*c of aabac", made("a*c", "aabac").cut(true, false), 2);
        due("*? of abc", made("*?", "abc").cut(true, false), 1);
        due("a*b*c of aabacbcc", made("a*b*c", "aabacbcc").cut(true, false), 5);
    }

    private static void cutLongestEnd() {
        sentence("7: The length of the longest end of the text that matches");
        due("b* of abcbc", made("b*", "abcbc").cut(true, true), 4);
        due("a*c of baabac", made("a*c", "baabac").cut(true, true), 5);
        due("*? of abc", made("*?", "abc").cut(true, true), 3);
        due("a*b*c of xaabacbcc", made("a*b*c", "xaabacbcc").cut(true, true), 8);
    }

    private static void cutOfLengthZero() {
        sentence("7: The length (0)");
        dueCuts("", "abc", false, 0, 0);
        dueCuts("", "abc", true, 0, 0);
        due("* shortest beginning", made("*", "abc").cut(false, false), 0);
        due("* shortest end", made("*", "abc").cut(true, false), 0);
        dueCuts("", "a".repeat(400), false, 0, 0);
        dueCuts("", "a".repeat(400), true, 0, 0);
    }

    private static void cutOfTheWhole() {
        sentence("7: The length (the whole text)");
        dueCuts("abc", "abc", false, 3, 3);
        dueCuts("abc", "abc", true, 3, 3);
        due("* longest beginning", made("*", "abc").cut(false, true), 3);
        due("* longest end", made("*", "abc").cut(true, true), 3);
    }

    private static void cutWhenNoneMatches() {
        sentence("7: NONE when none does");
        dueCuts("b", "abc", false, NONE, NONE);
        dueCuts("b", "abc", true, NONE, NONE);
        dueCuts("c", "abc", false, NONE, NONE);
        dueCuts("a", "abc", true, NONE, NONE);
        dueCuts("abcd", "abc", false, NONE, NONE);
        dueCuts("abcd", "abc", true, NONE, NONE);
        dueCuts("????", "abc", false, NONE, NONE);
        dueCuts("????", "abc", true, NONE, NONE);
        dueCuts("*d", "abc", false, NONE, NONE);
        dueCuts("d*", "abc", true, NONE, NONE);
        dueCuts("\\*", "abc", false, NONE, NONE);
        dueCuts("\\*", "abc", true, NONE, NONE);
        dueCuts("a".repeat(200), "a".repeat(199), false, NONE, NONE);
        dueCuts("a".repeat(200), "a".repeat(199), true, NONE, NONE);
    }

    private static void cutOfAnEmptyText() {
        sentence("7: of the text (empty)");
        for (int k = 0; k < 2; k++) {
            boolean end = k == 1;
            dueCuts("", "", end, 0, 0);
            dueCuts("*", "", end, 0, 0);
            dueCuts("?", "", end, NONE, NONE);
            dueCuts("a", "", end, NONE, NONE);
            dueCuts("[!a]", "", end, NONE, NONE);
        }
    }

    private static void cutOfAFullText() {
        sentence("7: of the text (full)");
        dueCuts("*a", "a".repeat(400), false, 1, 400);
        dueCuts("a*", "a".repeat(400), true, 1, 400);
        dueCuts("*b", "a".repeat(399) + "b", false, 400, 400);
        dueCuts("b*", "b" + "a".repeat(399), true, 400, 400);
        dueCuts("?".repeat(200), "a".repeat(400), false, 200, 200);
        dueCuts("?".repeat(200), "a".repeat(400), true, 200, 200);
        dueCuts("*".repeat(200), "a".repeat(400), false, 0, 400);
        dueCuts("*".repeat(200), "a".repeat(400), true, 0, 400);
        dueCuts("b", "a".repeat(400), false, NONE, NONE);
        dueCuts("b", "a".repeat(400), true, NONE, NONE);
    }

    private static void cutOfEachLength() {
        sentence("7: The length (each from 0 to 8)");
        for (int length = 0; length <= 8; length++) {
            dueCuts("?".repeat(length), "abcdefgh", false, length, length);
            dueCuts("?".repeat(length), "abcdefgh", true, length, length);
            dueCuts("?".repeat(length) + "*", "abcdefgh", false, length, 8);
            dueCuts("*" + "?".repeat(length), "abcdefgh", true, length, 8);
        }
        dueCuts("?".repeat(9), "abcdefgh", false, NONE, NONE);
        dueCuts("?".repeat(9), "abcdefgh", true, NONE, NONE);
    }

    private static void special() {
        specialOfAnEmptyPattern();
        specialAlone();
        specialAtEachPlace();
        specialQuoted();
        specialIsNoOther();
        specialLooksAtThePattern();
    }

    private static void specialOfAnEmptyPattern() {
        sentence("8: Whether there is one in the pattern (empty)");
        dueSpecial("", false);
        NamePattern x = made("*", "");
        x.clear();
        due("behind clear", x.isSpecial(), false);
    }

    private static void specialAlone() {
        sentence("8: an unquoted * , ? or [");
        dueSpecial("*", true);
        dueSpecial("?", true);
        dueSpecial("[", true);
        dueSpecial("[a]", true);
        dueSpecial("[a", true);
        dueSpecial("[]", true);
    }

    private static void specialAtEachPlace() {
        sentence("8: in the pattern (at each place of a full one)");
        for (int at = 0; at < 200; at++) {
            dueSpecial("a".repeat(at) + "*" + "a".repeat(199 - at), true);
            dueSpecial("a".repeat(at) + "?" + "a".repeat(199 - at), true);
            dueSpecial("a".repeat(at) + "[" + "a".repeat(199 - at), true);
        }
        dueSpecial("a".repeat(200), false);
    }

    private static void specialQuoted() {
        sentence("8: an unquoted (quoted ones are none)");
        dueSpecial("\\*", false);
        dueSpecial("\\?", false);
        dueSpecial("\\[", false);
        dueSpecial("\\[a]", false);
        dueSpecial("\\*\\?\\[".repeat(66), false);
        dueSpecial("\\*\\?\\[".repeat(66) + "*", true);
        dueSpecial("\\**", true);
        dueSpecial("*\\*", true);
    }

    private static void specialIsNoOther() {
        sentence("8: * , ? or [ (no other)");
        for (int c = 0; c <= 255; c++) {
            NamePattern x = new NamePattern();
            x.pattern(c, 1, 0);
            due("character " + c, x.isSpecial(), c == '*' || c == '?' || c == '[');
        }
    }

    private static void specialLooksAtThePattern() {
        sentence("8: in the pattern (not in the text)");
        due("*?[ in the text", made("abc", "*?[").isSpecial(), false);
    }

    private static void count() {
        countOfTheText();
        countOfThePattern();
        countOfTheQuoted();
        countOfTheSets();
        countOfSetsWithinOthers();
        countOfSetsThatNothingCloses();
        countOfOthers();
    }

    private static void countOfTheText() {
        sentence("9: what = 0 the length of the text");
        due("empty", made("abc", "").count(0), 0);
        due("one", made("abc", "a").count(0), 1);
        due("399", made("abc", "a".repeat(399)).count(0), 399);
        due("full", made("abc", "a".repeat(400)).count(0), 400);
    }

    private static void countOfThePattern() {
        sentence("9: 1 of the pattern");
        due("empty", made("", "abc").count(1), 0);
        due("one", made("a", "abc").count(1), 1);
        due("quoted ones, too", made("\\a\\*b", "abcde").count(1), 3);
        due("199", made("[".repeat(199), "abc").count(1), 199);
        due("full", made("*".repeat(200), "abc").count(1), 200);
    }

    private static void countOfTheQuoted() {
        sentence("9: 2 quoted characters of it");
        due("empty", made("", "abc").count(2), 0);
        due("none", made("*?[a]", "abc").count(2), 0);
        due("the first", made("\\abc", "").count(2), 1);
        due("the last", made("ab\\c", "").count(2), 1);
        due("within a set", made("[\\a\\]]", "").count(2), 2);
        due("all but one", made("\\*".repeat(199) + "*", "").count(2), 199);
        due("all of 200", made("\\*".repeat(200), "").count(2), 200);
    }

    private static void countOfTheSets() {
        sentence("9: 3 sets that begin at its [");
        dueSets("", 0);
        dueSets("abc", 0);
        dueSets("[a]", 1);
        dueSets("[a][b]", 2);
        dueSets("x[a]y[!b]z", 2);
        dueSets("[a]".repeat(66), 66);
        dueSets("[" + "a".repeat(198) + "]", 1);
        dueSets("[!]]", 1);
        dueSets("[]]", 1);
    }

    private static void countOfSetsWithinOthers() {
        sentence("9: each unquoted [ that a ] closes, also within others");
        dueSets("[[a]", 2);
        dueSets("[a[b]", 2);
        dueSets("[a[b]c]", 2);
        dueSets("[[[a]", 3);
        dueSets("[[]", 1);
        dueSets("[[]]", 2);
        dueSets("[![a]", 2);
        dueSets("[![!]", 1);
        dueSets("[![!]]", 2);
        dueSets("[\\[a]", 1);
        dueSets("[".repeat(198) + "a]", 198);
        dueSets("[".repeat(199) + "]", 198);
    }

    private static void countOfSetsThatNothingCloses() {
        sentence("9: each unquoted [ that a ] closes (others are no sets)");
        dueSets("[", 0);
        dueSets("[a", 0);
        dueSets("[]", 0);
        dueSets("[!]", 0);
        dueSets("[!", 0);
        dueSets("][", 0);
        dueSets("]a[b", 0);
        dueSets("[a\\]", 0);
        dueSets("\\[a]", 0);
        dueSets("[a][b", 1);
        dueSets("[".repeat(200), 0);
        dueSets("a".repeat(199) + "[", 0);
    }

    private static void countOfOthers() {
        sentence("9: NONE for others");
        int[] others = {-1, 4, 5, -2, -3, 256, 257, -256, 65536,
            Integer.MIN_VALUE, Integer.MIN_VALUE + 1, Integer.MAX_VALUE, Integer.MAX_VALUE - 1};
        for (int what : others) {
            due("count " + what + " of a new object", new NamePattern().count(what), NONE);
            NamePattern x = made("*[b-d]\\*", "abc*");
            String before = state(x);
            due("count " + what, x.count(what), NONE);
            dueState("count " + what, x, before);
        }
    }

    private static void askingChangesNothing() {
        sentence("a call that only asks changes nothing");
        NamePattern x = made("[a-c]*\\*[!x]", "ab*yc*z");
        String before = state(x);
        for (int round = 0; round < 10; round++) {
            dueState("round " + round, x, before);
            duePart(x, 0, 4, true);
            duePart(x, 4, 7, true);
            duePart(x, 3, 7, false);
        }
    }

    private static void all512Calls() {
        sentence("An object is used for at most 512 calls after it has been made");
        NamePattern x = new NamePattern();
        for (int call = 1; call <= 400; call++) {
            due("text, call " + call, x.text('a', 1), call);
        }
        for (int call = 401; call <= 511; call++) {
            due("pattern, call " + call, x.pattern('?', 1, 0), call - 400);
        }
        due("call 512", x.cut(true, true), 111);
    }
}
