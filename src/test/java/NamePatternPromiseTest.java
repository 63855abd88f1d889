/**
 * Each promise of the document by itself: ordinary inputs, the edges, wrong inputs.
 * In the patterns of this test a backslash says that the character behind it is quoted.
 */
public final class NamePatternPromiseTest {
    private static final int NONE = NamePattern.NONE;
    private static int wrong = 0;

    public static void main(String[] args) {
        newObject();
        text();
        pattern();
        clear();
        matchesOutsideSets();
        matchesOneOfASet();
        matchesWhatClosesASet();
        matchesLongRows();
        part();
        cutBeginning();
        cutEnd();
        isSpecial();
        count();
        countSets();
        askingChangesNothing();
        System.out.println(wrong == 0 ? "all promises hold" : wrong + " answers are not as due");
        if (wrong != 0) {
            System.exit(1);
        }
    }

    private static void newObject() {
        NamePattern x = new NamePattern();
        due("1: length of the new text", x.count(0), 0);
        due("1: length of the new pattern", x.count(1), 0);
        due("1: quoted in the new pattern", x.count(2), 0);
        due("1: sets in the new pattern", x.count(3), 0);
        due("1: nothing matches nothing", x.matches(), true);
        due("1: new pattern isSpecial", x.isSpecial(), false);
        due("1: cut of a new object", x.cut(false, true), 0);
        due("1: clear of a new object", x.clear(), 0);
        NamePattern other = new NamePattern();
        other.text('a', 1);
        other.pattern('*', 1, 1);
        due("1: objects share no text", x.count(0), 0);
        due("1: objects share no pattern", x.count(1), 0);
    }

    private static void text() {
        NamePattern x = new NamePattern();
        due("2: none", x.text(0x6162L, 0), 0);
        due("2: two", x.text(0x6162L, 2), 2);
        due("2: lowest byte alone", x.text(0x7a7a63L, 1), 3);
        due("2: eight", x.text(0xfffe000102037f80L, 8), 11);
        addPattern(x, "abc\u00ff\u00fe\u0000\u0001\u0002\u0003\u007f\u0080");
        due("2: highest first, 0 .. 255", x.matches(), true);
        due("2: nine", x.text(0, 9), NONE);
        due("2: below none", x.text(0, -1), NONE);
        due("2: least n", x.text(0, Integer.MIN_VALUE), NONE);
        due("2: greatest n", x.text(0, Integer.MAX_VALUE), NONE);
        due("2: wrong n changed nothing", x.count(0), 11);
        due("2: wrong n changed no character", x.matches(), true);
        textLimit();
    }

    private static void textLimit() {
        NamePattern x = new NamePattern();
        addText(x, "a".repeat(396));
        due("2: to 401", x.text(0x6262626262L, 5), NONE);
        due("2: 401 refused changes nothing", x.count(0), 396);
        due("2: to 400", x.text(0x61616161L, 4), 400);
        due("2: nothing behind 400", x.text(0, 0), 400);
        due("2: one behind 400", x.text('b', 1), NONE);
        due("2: eight behind 400", x.text(-1, 8), NONE);
        due("2: stays 400", x.count(0), 400);
    }

    private static void pattern() {
        NamePattern x = new NamePattern();
        due("3: none", x.pattern(0x2aL, 0, 1), 0);
        due("3: none quotes none", x.count(2), 0);
        due("3: three, the first two quoted", x.pattern(0x3f2a2aL, 3, 3), 3);
        due("3: two quoted", x.count(2), 2);
        addText(x, "?*xyz");
        due("3: bit 0 is the first", x.matches(), true);
        due("3: bits behind n count nothing", x.pattern(0x21L, 1, -2), 4);
        due("3: still two quoted", x.count(2), 2);
        due("3: bits behind n are not kept", x.pattern(0x21L, 1, 0), 5);
        due("3: still two quoted later", x.count(2), 2);
        due("3: eight, all quoted", x.pattern(0x2121212121212121L, 8, -1), 13);
        due("3: ten quoted", x.count(2), 10);
        due("3: nine", x.pattern(0, 9, 0), NONE);
        due("3: below none", x.pattern(0, -1, 0), NONE);
        due("3: least n", x.pattern(0, Integer.MIN_VALUE, -1), NONE);
        due("3: greatest n", x.pattern(0, Integer.MAX_VALUE, -1), NONE);
        due("3: wrong n changed nothing", x.count(1), 13);
        due("3: wrong n quoted nothing", x.count(2), 10);
        NamePattern bytes = new NamePattern();
        due("3: eight bytes", bytes.pattern(0xfffe000102037f80L, 8, 0), 8);
        addText(bytes, "\u00ff\u00fe\u0000\u0001\u0002\u0003\u007f\u0080");
        due("3: highest first, 0 .. 255", bytes.matches(), true);
        patternLimit();
    }

    private static void patternLimit() {
        NamePattern x = new NamePattern();
        addPattern(x, "a".repeat(197));
        due("3: to 201", x.pattern(0x62626262L, 4, -1), NONE);
        due("3: 201 refused changes nothing", x.count(1), 197);
        due("3: 201 refused quotes nothing", x.count(2), 0);
        due("3: to 200", x.pattern(0x616161L, 3, 4), 200);
        due("3: last of 200 is quoted", x.count(2), 1);
        due("3: nothing behind 200", x.pattern(0, 0, 0), 200);
        due("3: one behind 200", x.pattern('b', 1, 0), NONE);
        addText(x, "a".repeat(200));
        due("3: all 200 match", x.matches(), true);
    }

    private static void clear() {
        NamePattern x = made("\\*\\[[a]", "some text");
        due("4: length of the text", x.clear(), 9);
        due("4: text is empty", x.count(0), 0);
        due("4: pattern is empty", x.count(1), 0);
        due("4: nothing is quoted", x.count(2), 0);
        due("4: no sets", x.count(3), 0);
        due("4: not special", x.isSpecial(), false);
        due("4: empty matches empty", x.matches(), true);
        due("4: again", x.clear(), 0);
        addPattern(x, "*");
        due("4: an old quote is gone", x.count(2), 0);
        addText(x, "so");
        due("4: unquoted again", x.matches(), true);
        addPattern(x, "m");
        due("4: old characters are gone", x.matches(), false);
        x.clear();
        addPattern(x, "[a");
        due("4: an old ] closes nothing", x.count(3), 0);
        due("4: without a text", x.clear(), 0);
        addText(x, "t".repeat(400));
        due("4: the longest", x.clear(), 400);
        due("4: room again", x.text(0x6162636465666768L, 8), 8);
    }

    private static void matchesOutsideSets() {
        match("", "", true);
        match("", "a", false);
        match("a", "", false);
        match("abc", "abc", true);
        match("abc", "abd", false);
        match("abc", "ab", false);
        match("abc", "abcd", false);
        match("a", "A", false);
        match("*", "", true);
        match("*", "/.\n\u0000\u00ff", true);
        match("**", "", true);
        match("a*", "a", true);
        match("*a", "ba", true);
        match("*a", "ab", false);
        match("a*b", "ab", true);
        match("a*b", "aXbYb", true);
        match("a*b", "aXbY", false);
        match("*ab*ab*", "ab", false);
        match("*ab*ab*", "xabab", true);
        match("?", "", false);
        match("?", "\n", true);
        match("?", "\u00ff", true);
        match("?", "ab", false);
        match("?*?", "a", false);
        match("*?*?", "ab", true);
        match("\\*", "*", true);
        match("\\*", "a", false);
        match("\\*", "", false);
        match("\\?", "?", true);
        match("\\?", "a", false);
        match("\\a", "a", true);
        match("]!-", "]!-", true);
        match(".*", ".profile", true);
        match("*", ".profile", true);
        match("*/*", "a/b/c", true);
    }

    private static void matchesOneOfASet() {
        match("[abc]", "b", true);
        match("[abc]", "d", false);
        match("[abc]", "", false);
        match("[abc]", "ab", false);
        match("[!abc]", "b", false);
        match("[!abc]", "d", true);
        match("[!abc]", "", false);
        match("[!abc]", "!", true);
        match("[\\!a]", "!", true);
        match("[\\!a]", "b", false);
        match("[a!]", "!", true);
        match("[!!]", "!", false);
        match("[!!]", "a", true);
        match("[b-d]", "a", false);
        match("[b-d]", "b", true);
        match("[b-d]", "c", true);
        match("[b-d]", "d", true);
        match("[b-d]", "e", false);
        match("[b-d]", "-", false);
        match("[!b-d]", "c", false);
        match("[!b-d]", "-", true);
        match("[b\\-d]", "c", false);
        match("[b\\-d]", "-", true);
        match("[\\b-\\d]", "c", true);
        match("[d-b]", "c", false);
        match("[d-b]", "d", false);
        match("[d-b]", "-", false);
        match("[!d-b]", "d", true);
        match("[c-c]", "c", true);
        match("[c-c]", "-", false);
        match("[-c]", "-", true);
        match("[-c]", "b", false);
        match("[c-]", "-", true);
        match("[c-]", "c", true);
        match("[c-]", "]", false);
        match("[-]", "-", true);
        match("[--]", "-", true);
        match("[---]", "-", true);
        match("[+--]", ",", true);
        match("[--/]", ".", true);
        match("[a-c-e]", "d", false);
        match("[a-c-e]", "-", true);
        match("[a-c-e]", "e", true);
        match("[xa-c]", "b", true);
        match("[!-a]", "-", false);
        match("[!-a]", "0", true);
        match("[\\!-a]", "0", true);
        match("[\u0000-\u00ff]", "\u00ff", true);
        match("[\u0080-\u00ff]", "\u007f", false);
        match("[\u0080-\u00ff]", "\u0080", true);
        match("[\u007f-\u0081]", "\u0080", true);
        match("[*?]", "a", false);
        match("[*?]", "*", true);
        match("[*?]", "??", false);
        match("*[0-9]?", "file7x", true);
        match("*[0-9]?", "file7", false);
        match("[a][b]", "ab", true);
        match("[a]*[b]", "acccb", true);
    }

    private static void matchesWhatClosesASet() {
        match("[]]", "]", true);
        match("[]a]", "a", true);
        match("[]a]", "]", true);
        match("[!]]", "]", false);
        match("[!]]", "a", true);
        match("[!]a]", "a", false);
        match("[]-a]", "_", true);
        match("[]-a]", "-", false);
        match("[]-]", "-", true);
        match("[]-]", "]", true);
        match("[\\]]", "]", true);
        match("[a\\]b]", "]", true);
        match("[a\\]b]", "b", true);
        match("[a]b]", "ab]", true);
        match("[a]]", "a]", true);
        match("[a]]", "]", false);
        match("[a-\\]]", "-", false);
        match("[+-\\]]", "A", true);
        match("[a-]-z]", "--z]", true);
        match("[a-]-z]", "b", false);
        match("[", "[", true);
        match("[a", "[a", true);
        match("[a", "a", false);
        match("[]", "[]", true);
        match("[]", "]", false);
        match("[!]", "[!]", true);
        match("[!]", "!", false);
        match("[!", "[!", true);
        match("[a\\]", "[a]", true);
        match("[a\\]", "a", false);
        match("\\[a]", "[a]", true);
        match("\\[a]", "a", false);
        match("[*", "[xyz", true);
        match("[?", "[x", true);
        match("[[a]", "[", true);
        match("[[a]", "a", true);
        match("[[a]", "[a", false);
        match("[\\[a]", "[", true);
        match("[a[b]c]", "[c]", true);
        match("[][a]", "[", true);
        match("[[]", "[", true);
        match("[[]", "[[]", false);
        match("[!\\]]", "a", true);
        match("[\\!]", "!", true);
        match("[\\!]]", "!]", true);
    }

    private static void matchesLongRows() {
        String a = "a".repeat(400);
        match("*", a, true);
        match("*a".repeat(100), a, true);
        match("*a".repeat(99) + "*b", a, false);
        match("?".repeat(199) + "*", a, true);
        match("?".repeat(200), a, false);
        match("[".repeat(200), "[".repeat(200), true);
        match("[" + "b".repeat(197) + "a]", "a", true);
        match("[" + "b".repeat(197) + "a]", "c", false);
        match("[a]".repeat(66) + "*", a, true);
    }

    private static void part() {
        NamePattern x = made("b?d", "abcd");
        duePart(x, 1, 4, true);
        duePart(x, 0, 4, false);
        duePart(x, 1, 3, false);
        duePart(x, 2, 2, false);
        NamePattern y = made("*", "abc");
        duePart(y, 0, 0, true);
        duePart(y, 3, 3, true);
        duePart(y, 0, 3, true);
        dueThrown(y, -1, 0);
        dueThrown(y, -1, -1);
        dueThrown(y, 2, 1);
        dueThrown(y, 0, -1);
        dueThrown(y, 0, 4);
        dueThrown(y, 4, 4);
        dueThrown(y, 4, 3);
        dueThrown(y, Integer.MIN_VALUE, Integer.MAX_VALUE);
        dueThrown(y, Integer.MAX_VALUE, Integer.MIN_VALUE);
        dueThrown(y, 0, Integer.MAX_VALUE);
        due("6: a refused part changes nothing", y.count(0), 3);
        NamePattern empty = new NamePattern();
        duePart(empty, 0, 0, true);
        dueThrown(empty, 0, 1);
        y.clear();
        dueThrown(y, 0, 1);
        NamePattern full = made("b", "a".repeat(399) + "b");
        duePart(full, 399, 400, true);
        duePart(full, 400, 400, false);
        dueThrown(full, 400, 401);
    }

    private static void cutBeginning() {
        dueCuts("*b", "abcb", false, 2, 4);
        dueCuts("*", "abc", false, 0, 3);
        dueCuts("", "abc", false, 0, 0);
        dueCuts("", "", false, 0, 0);
        dueCuts("a", "", false, NONE, NONE);
        dueCuts("a", "ab", false, 1, 1);
        dueCuts("b", "ab", false, NONE, NONE);
        dueCuts("?*", "abc", false, 1, 3);
        dueCuts("[ab]*[!a]", "abaab", false, 2, 5);
        dueCuts("*a", "a".repeat(400), false, 1, 400);
        dueCuts("abcd", "abc", false, NONE, NONE);
    }

    private static void cutEnd() {
        dueCuts("b*", "abcb", true, 1, 3);
        dueCuts("*", "abc", true, 0, 3);
        dueCuts("", "abc", true, 0, 0);
        dueCuts("", "", true, 0, 0);
        dueCuts("a", "", true, NONE, NONE);
        dueCuts("b", "ab", true, 1, 1);
        dueCuts("a", "ab", true, NONE, NONE);
        dueCuts("*?", "abc", true, 1, 3);
        dueCuts(".*", "a.tar.gz", true, 3, 7);
        dueCuts("a*b*c", "aabacbcc", true, 5, 8);
        dueCuts("a*", "a".repeat(400), true, 1, 400);
        dueCuts("abcd", "bcd", true, NONE, NONE);
    }

    private static void isSpecial() {
        dueSpecial("", false);
        dueSpecial("abc", false);
        dueSpecial("*", true);
        dueSpecial("?", true);
        dueSpecial("[", true);
        dueSpecial("[a]", true);
        dueSpecial("]!-", false);
        dueSpecial("\\*\\?\\[", false);
        dueSpecial("\\**", true);
        dueSpecial("abc?", true);
        dueSpecial("\\[a]", false);
    }

    private static void count() {
        NamePattern x = made("a\\b*\\*[c]", "hello");
        due("9: text", x.count(0), 5);
        due("9: pattern", x.count(1), 7);
        due("9: quoted", x.count(2), 2);
        due("9: sets", x.count(3), 1);
        due("9: four", x.count(4), NONE);
        due("9: below none", x.count(-1), NONE);
        due("9: least", x.count(Integer.MIN_VALUE), NONE);
        due("9: greatest", x.count(Integer.MAX_VALUE), NONE);
    }

    private static void countSets() {
        dueSets("[a][b]", 2);
        dueSets("[[a]", 2);
        dueSets("[a[b]c]", 2);
        dueSets("[[]", 1);
        dueSets("[[]]", 2);
        dueSets("[]", 0);
        dueSets("[]]", 1);
        dueSets("[!]", 0);
        dueSets("[!]]", 1);
        dueSets("[\\!]", 1);
        dueSets("[a", 0);
        dueSets("[a\\]", 0);
        dueSets("\\[a]", 0);
        dueSets("[\\[a]", 1);
        dueSets("[![!]", 1);
        dueSets("[![!]]", 2);
        dueSets("[".repeat(199) + "]", 198);
        dueSets("[".repeat(200), 0);
    }

    private static void askingChangesNothing() {
        NamePattern x = made("*[b-d]\\*", "abc*");
        for (int round = 0; round < 3; round++) {
            due("asked again: matches", x.matches(), true);
            due("asked again: beginning", x.cut(false, false), 4);
            due("asked again: end", x.cut(true, false), 2);
            due("asked again: longest end", x.cut(true, true), 4);
            due("asked again: part", x.part(1, 3), false);
            due("asked again: special", x.isSpecial(), true);
            due("asked again: sets", x.count(3), 1);
        }
        due("asked: text stays", x.count(0), 4);
        due("asked: pattern stays", x.count(1), 7);
        due("asked: quoted stays", x.count(2), 1);
    }

    private static void match(String pattern, String text, boolean want) {
        due("5: " + pattern + " against " + text, made(pattern, text).matches(), want);
    }

    private static void duePart(NamePattern x, int from, int to, boolean want) {
        due("6: part " + from + ", " + to, x.part(from, to), want);
    }

    private static void dueThrown(NamePattern x, int from, int to) {
        boolean thrown = false;
        try {
            x.part(from, to);
        } catch (IndexOutOfBoundsException e) {
            thrown = e.getClass() == IndexOutOfBoundsException.class;
        }
        due("6: part " + from + ", " + to + " throws", thrown, true);
    }

    private static void dueCuts(String pattern, String text, boolean end, int shortest, int longest) {
        NamePattern x = made(pattern, text);
        String name = "7: " + pattern + " of " + text + (end ? ", end, " : ", beginning, ");
        due(name + "shortest", x.cut(end, false), shortest);
        due(name + "longest", x.cut(end, true), longest);
    }

    private static void dueSpecial(String pattern, boolean want) {
        due("8: " + pattern, made(pattern, "").isSpecial(), want);
    }

    private static void dueSets(String pattern, int want) {
        due("9: sets in " + pattern, made(pattern, "").count(3), want);
    }

    private static NamePattern made(String pattern, String text) {
        NamePattern x = new NamePattern();
        addPattern(x, pattern);
        addText(x, text);
        return x;
    }

    private static void addText(NamePattern x, String text) {
        for (int i = 0; i < text.length(); i++) {
            if (x.text(text.charAt(i), 1) == NONE) {
                throw new IllegalStateException("the test's text is too long");
            }
        }
    }

    private static void addPattern(NamePattern x, String pattern) {
        for (int i = 0; i < pattern.length(); i++) {
            boolean quoted = pattern.charAt(i) == '\\';
            if (quoted) {
                i++;
            }
            if (x.pattern(pattern.charAt(i), 1, quoted ? 1 : 0) == NONE) {
                throw new IllegalStateException("the test's pattern is too long");
            }
        }
    }

    private static void due(String what, boolean got, boolean want) {
        due(what, got ? 1 : 0, want ? 1 : 0);
    }

    private static void due(String what, int got, int want) {
        if (got != want) {
            wrong++;
            System.out.println(what + " answered " + got + ", due is " + want);
        }
    }
}
