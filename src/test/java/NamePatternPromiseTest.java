/**
 * Each promise of the document by itself: ordinary inputs, the edges, wrong inputs.
 * In the patterns of this test a backslash says that the character behind it is quoted.
 */
public final class NamePatternPromiseTest extends Checks {
    public static void main(String[] args) {
        newObject();
        text();
        pattern();
        clear();
        matchesOutsideSets();
        matchesOneOfASet();
        matchesWhatClosesASet();
        matchesLongRows();
        part();
        cutBeginning();
        cutEnd();
        isSpecial();
        count();
        countSets();
        askingChangesNothing();
        end("all promises hold");
    }

    private static void newObject() {
        sentence("promise 1");
        NamePattern x = new NamePattern();
        due("length of the new text", x.count(0), 0);
        due("length of the new pattern", x.count(1), 0);
        due("quoted in the new pattern", x.count(2), 0);
        due("sets in the new pattern", x.count(3), 0);
        due("nothing matches nothing", x.matches(), true);
        due("new pattern isSpecial", x.isSpecial(), false);
        due("cut of a new object", x.cut(false, true), 0);
        due("clear of a new object", x.clear(), 0);
        NamePattern other = new NamePattern();
        other.text('a', 1);
        other.pattern('*', 1, 1);
        due("objects share no text", x.count(0), 0);
        due("objects share no pattern", x.count(1), 0);
    }

    private static void text() {
        sentence("promise 2");
        NamePattern x = new NamePattern();
        due("none", x.text(0x6162L, 0), 0);
        due("two", x.text(0x6162L, 2), 2);
        due("lowest byte alone", x.text(0x7a7a63L, 1), 3);
        due("eight", x.text(0xfffe000102037f80L, 8), 11);
        addPattern(x, "abc\u00ff\u00fe\u0000\u0001\u0002\u0003\u007f\u0080");
        due("highest first, 0 .. 255", x.matches(), true);
        due("nine", x.text(0, 9), NONE);
        due("below none", x.text(0, -1), NONE);
        due("least n", x.text(0, Integer.MIN_VALUE), NONE);
        due("greatest n", x.text(0, Integer.MAX_VALUE), NONE);
        due("wrong n changed nothing", x.count(0), 11);
        due("wrong n changed no character", x.matches(), true);
        textLimit();
    }

    private static void textLimit() {
        NamePattern x = new NamePattern();
        addText(x, "a".repeat(396));
        due("to 401", x.text(0x6262626262L, 5), NONE);
        due("401 refused changes nothing", x.count(0), 396);
        due("to 400", x.text(0x61616161L, 4), 400);
        due("nothing behind 400", x.text(0, 0), 400);
        due("one behind 400", x.text('b', 1), NONE);
        due("eight behind 400", x.text(-1, 8), NONE);
        due("stays 400", x.count(0), 400);
    }

    private static void pattern() {
        sentence("promise 3");
        NamePattern x = new NamePattern();
        due("none", x.pattern(0x2aL, 0, 1), 0);
        due("none quotes none", x.count(2), 0);
        due("three, the first two quoted", x.pattern(0x3f2a2aL, 3, 3), 3);
        due("two quoted", x.count(2), 2);
        addText(x, "?*xyz");
        due("bit 0 is the first", x.matches(), true);
        due("bits behind n count nothing", x.pattern(0x21L, 1, -2), 4);
        due("still two quoted", x.count(2), 2);
        due("bits behind n are not kept", x.pattern(0x21L, 1, 0), 5);
        due("still two quoted later", x.count(2), 2);
        due("eight, all quoted", x.pattern(0x2121212121212121L, 8, -1), 13);
        due("ten quoted", x.count(2), 10);
        due("nine", x.pattern(0, 9, 0), NONE);
        due("below none", x.pattern(0, -1, 0), NONE);
        due("least n", x.pattern(0, Integer.MIN_VALUE, -1), NONE);
        due("greatest n", x.pattern(0, Integer.MAX_VALUE, -1), NONE);
        due("wrong n changed nothing", x.count(1), 13);
        due("wrong n quoted nothing", x.count(2), 10);
        NamePattern bytes = new NamePattern();
        due("eight bytes", bytes.pattern(0xfffe000102037f80L, 8, 0), 8);
        addText(bytes, "\u00ff\u00fe\u0000\u0001\u0002\u0003\u007f\u0080");
        due("highest first, 0 .. 255", bytes.matches(), true);
        patternLimit();
    }

    private static void patternLimit() {
        NamePattern x = new NamePattern();
        addPattern(x, "a".repeat(197));
        due("to 201", x.pattern(0x62626262L, 4, -1), NONE);
        due("201 refused changes nothing", x.count(1), 197);
        due("201 refused quotes nothing", x.count(2), 0);
        due("to 200", x.pattern(0x616161L, 3, 4), 200);
        due("last of 200 is quoted", x.count(2), 1);
        due("nothing behind 200", x.pattern(0, 0, 0), 200);
        due("one behind 200", x.pattern('b', 1, 0), NONE);
        addText(x, "a".repeat(200));
        due("all 200 match", x.matches(), true);
    }

    private static void clear() {
        sentence("promise 4");
        NamePattern x = made("\\*\\[[a]", "some text");
        due("length of the text", x.clear(), 9);
        due("text is empty", x.count(0), 0);
        due("pattern is empty", x.count(1), 0);
        due("nothing is quoted", x.count(2), 0);
        due("no sets", x.count(3), 0);
        due("not special", x.isSpecial(), false);
        due("empty matches empty", x.matches(), true);
        due("again", x.clear(), 0);
        addPattern(x, "*");
        due("an old quote is gone", x.count(2), 0);
        addText(x, "so");
        due("unquoted again", x.matches(), true);
        addPattern(x, "m");
        due("old characters are gone", x.matches(), false);
        x.clear();
        addPattern(x, "[a");
        due("an old ] closes nothing", x.count(3), 0);
        due("without a text", x.clear(), 0);
        addText(x, "t".repeat(400));
        due("the longest", x.clear(), 400);
        due("room again", x.text(0x6162636465666768L, 8), 8);
    }

    private static void matchesOutsideSets() {
        sentence("promise 5");
        dueMatch("", "", true);
        dueMatch("", "a", false);
        dueMatch("a", "", false);
        dueMatch("abc", "abc", true);
        dueMatch("abc", "abd", false);
        dueMatch("abc", "ab", false);
        dueMatch("abc", "abcd", false);
        dueMatch("a", "A", false);
        dueMatch("*", "", true);
        dueMatch("*", "/.\n\u0000\u00ff", true);
        dueMatch("**", "", true);
        dueMatch("a*", "a", true);
        dueMatch("*a", "ba", true);
        dueMatch("*a", "ab", false);
        dueMatch("a*b", "ab", true);
        dueMatch("a*b", "aXbYb", true);
        dueMatch("a*b", "aXbY", false);
        dueMatch("*ab*ab*", "ab", false);
        dueMatch("*ab*ab*", "xabab", true);
        dueMatch("?", "", false);
        dueMatch("?", "\n", true);
        dueMatch("?", "\u00ff", true);
        dueMatch("?", "ab", false);
        dueMatch("?*?", "a", false);
        dueMatch("*?*?", "ab", true);
        dueMatch("\\*", "*", true);
        dueMatch("\\*", "a", false);
        dueMatch("\\*", "", false);
        dueMatch("\\?", "?", true);
        dueMatch("\\?", "a", false);
        dueMatch("\\a", "a", true);
        dueMatch("]!-", "]!-", true);
        dueMatch(".*", ".profile", true);
        dueMatch("*", ".profile", true);
        dueMatch("*/*", "a/b/c", true);
    }

    private static void matchesOneOfASet() {
        sentence("promise 5");
        dueMatch("[abc]", "b", true);
        dueMatch("[abc]", "d", false);
        dueMatch("[abc]", "", false);
        dueMatch("[abc]", "ab", false);
        dueMatch("[!abc]", "b", false);
        dueMatch("[!abc]", "d", true);
        dueMatch("[!abc]", "", false);
        dueMatch("[!abc]", "!", true);
        dueMatch("[\\!a]", "!", true);
        dueMatch("[\\!a]", "b", false);
        dueMatch("[a!]", "!", true);
        dueMatch("[!!]", "!", false);
        dueMatch("[!!]", "a", true);
        dueMatch("[b-d]", "a", false);
        dueMatch("[b-d]", "b", true);
        dueMatch("[b-d]", "c", true);
        dueMatch("[b-d]", "d", true);
        dueMatch("[b-d]", "e", false);
        dueMatch("[b-d]", "-", false);
        dueMatch("[!b-d]", "c", false);
        dueMatch("[!b-d]", "-", true);
        dueMatch("[b\\-d]", "c", false);
        dueMatch("[b\\-d]", "-", true);
        dueMatch("[\\b-\\d]", "c", true);
        dueMatch("[d-b]", "c", false);
        dueMatch("[d-b]", "d", false);
        dueMatch("[d-b]", "-", false);
        dueMatch("[!d-b]", "d", true);
        dueMatch("[c-c]", "c", true);
        dueMatch("[c-c]", "-", false);
        dueMatch("[-c]", "-", true);
        dueMatch("[-c]", "b", false);
        dueMatch("[c-]", "-", true);
        dueMatch("[c-]", "c", true);
        dueMatch("[c-]", "]", false);
        dueMatch("[-]", "-", true);
        dueMatch("[--]", "-", true);
        dueMatch("[---]", "-", true);
        dueMatch("[+--]", ",", true);
        dueMatch("[--/]", ".", true);
        dueMatch("[a-c-e]", "d", false);
        dueMatch("[a-c-e]", "-", true);
        dueMatch("[a-c-e]", "e", true);
        dueMatch("[xa-c]", "b", true);
        dueMatch("[!-a]", "-", false);
        dueMatch("[!-a]", "0", true);
        dueMatch("[\\!-a]", "0", true);
        dueMatch("[\u0000-\u00ff]", "\u00ff", true);
        dueMatch("[\u0080-\u00ff]", "\u007f", false);
        dueMatch("[\u0080-\u00ff]", "\u0080", true);
        dueMatch("[\u007f-\u0081]", "\u0080", true);
        dueMatch("[*?]", "a", false);
        dueMatch("[*?]", "*", true);
        dueMatch("[*?]", "??", false);
        dueMatch("*[0-9]?", "file7x", true);
        dueMatch("*[0-9]?", "file7", false);
        dueMatch("[a][b]", "ab", true);
        dueMatch("[a]*[b]", "acccb", true);
    }

    private static void matchesWhatClosesASet() {
        sentence("promise 5");
        dueMatch("[]]", "]", true);
        dueMatch("[]a]", "a", true);
        dueMatch("[]a]", "]", true);
        dueMatch("[!]]", "]", false);
        dueMatch("[!]]", "a", true);
        dueMatch("[!]a]", "a", false);
        dueMatch("[]-a]", "_", true);
        dueMatch("[]-a]", "-", false);
        dueMatch("[]-]", "-", true);
        dueMatch("[]-]", "]", true);
        dueMatch("[\\]]", "]", true);
        dueMatch("[a\\]b]", "]", true);
        dueMatch("[a\\]b]", "b", true);
        dueMatch("[a]b]", "ab]", true);
        dueMatch("[a]]", "a]", true);
        dueMatch("[a]]", "]", false);
        dueMatch("[a-\\]]", "-", false);
        dueMatch("[+-\\]]", "A", true);
        dueMatch("[a-]-z]", "--z]", true);
        dueMatch("[a-]-z]", "b", false);
        dueMatch("[", "[", true);
        dueMatch("[a", "[a", true);
        dueMatch("[a", "a", false);
        dueMatch("[]", "[]", true);
        dueMatch("[]", "]", false);
        dueMatch("[!]", "[!]", true);
        dueMatch("[!]", "!", false);
        dueMatch("[!", "[!", true);
        dueMatch("[a\\]", "[a]", true);
        dueMatch("[a\\]", "a", false);
        dueMatch("\\[a]", "[a]", true);
        dueMatch("\\[a]", "a", false);
        dueMatch("[*", "[xyz", true);
        dueMatch("[?", "[x", true);
        dueMatch("[[a]", "[", true);
        dueMatch("[[a]", "a", true);
        dueMatch("[[a]", "[a", false);
        dueMatch("[\\[a]", "[", true);
        dueMatch("[a[b]c]", "[c]", true);
        dueMatch("[][a]", "[", true);
        dueMatch("[[]", "[", true);
        dueMatch("[[]", "[[]", false);
        dueMatch("[!\\]]", "a", true);
        dueMatch("[\\!]", "!", true);
        dueMatch("[\\!]]", "!]", true);
    }

    private static void matchesLongRows() {
        sentence("promise 5");
        String a = "a".repeat(400);
        dueMatch("*", a, true);
        dueMatch("*a".repeat(100), a, true);
        dueMatch("*a".repeat(99) + "*b", a, false);
        dueMatch("?".repeat(199) + "*", a, true);
        dueMatch("?".repeat(200), a, false);
        dueMatch("[".repeat(200), "[".repeat(200), true);
        dueMatch("[" + "b".repeat(197) + "a]", "a", true);
        dueMatch("[" + "b".repeat(197) + "a]", "c", false);
        dueMatch("[a]".repeat(66) + "*", a, true);
    }

    private static void part() {
        sentence("promise 6");
        NamePattern x = made("b?d", "abcd");
        duePart(x, 1, 4, true);
        duePart(x, 0, 4, false);
        duePart(x, 1, 3, false);
        duePart(x, 2, 2, false);
        NamePattern y = made("*", "abc");
        duePart(y, 0, 0, true);
        duePart(y, 3, 3, true);
        duePart(y, 0, 3, true);
        dueNoPart(y, -1, 0);
        dueNoPart(y, -1, -1);
        dueNoPart(y, 2, 1);
        dueNoPart(y, 0, -1);
        dueNoPart(y, 0, 4);
        dueNoPart(y, 4, 4);
        dueNoPart(y, 4, 3);
        dueNoPart(y, Integer.MIN_VALUE, Integer.MAX_VALUE);
        dueNoPart(y, Integer.MAX_VALUE, Integer.MIN_VALUE);
        dueNoPart(y, 0, Integer.MAX_VALUE);
        due("a refused part changes nothing", y.count(0), 3);
        NamePattern empty = new NamePattern();
        duePart(empty, 0, 0, true);
        dueNoPart(empty, 0, 1);
        y.clear();
        dueNoPart(y, 0, 1);
        NamePattern full = made("b", "a".repeat(399) + "b");
        duePart(full, 399, 400, true);
        duePart(full, 400, 400, false);
        dueNoPart(full, 400, 401);
    }

    private static void cutBeginning() {
        sentence("promise 7");
        dueCuts("*b", "abcb", false, 2, 4);
        dueCuts("*", "abc", false, 0, 3);
        dueCuts("", "abc", false, 0, 0);
        dueCuts("", "", false, 0, 0);
        dueCuts("a", "", false, NONE, NONE);
        dueCuts("a", "ab", false, 1, 1);
        dueCuts("b", "ab", false, NONE, NONE);
        dueCuts("?*", "abc", false, 1, 3);
        dueCuts("[ab]*[!a]", "abaab", false, 2, 5);
        dueCuts("*a", "a".repeat(400), false, 1, 400);
        dueCuts("abcd", "abc", false, NONE, NONE);
    }

    private static void cutEnd() {
        sentence("promise 7");
        dueCuts("b*", "abcb", true, 1, 3);
        dueCuts("*", "abc", true, 0, 3);
        dueCuts("", "abc", true, 0, 0);
        dueCuts("", "", true, 0, 0);
        dueCuts("a", "", true, NONE, NONE);
        dueCuts("b", "ab", true, 1, 1);
        dueCuts("a", "ab", true, NONE, NONE);
        dueCuts("*?", "abc", true, 1, 3);
        dueCuts(".*", "a.tar.gz", true, 3, 7);
        dueCuts("a*b*c", "aabacbcc", true, 5, 8);
        dueCuts("a*", "a".repeat(400), true, 1, 400);
        dueCuts("abcd", "bcd", true, NONE, NONE);
    }

    private static void isSpecial() {
        sentence("promise 8");
        dueSpecial("", false);
        dueSpecial("abc", false);
        dueSpecial("*", true);
        dueSpecial("?", true);
        dueSpecial("[", true);
        dueSpecial("[a]", true);
        dueSpecial("]!-", false);
        dueSpecial("\\*\\?\\[", false);
        dueSpecial("\\**", true);
        dueSpecial("abc?", true);
        dueSpecial("\\[a]", false);
    }

    private static void count() {
        sentence("promise 9");
        NamePattern x = made("a\\b*\\*[c]", "hello");
        due("text", x.count(0), 5);
        due("pattern", x.count(1), 7);
        due("quoted", x.count(2), 2);
        due("sets", x.count(3), 1);
        due("four", x.count(4), NONE);
        due("below none", x.count(-1), NONE);
        due("least", x.count(Integer.MIN_VALUE), NONE);
        due("greatest", x.count(Integer.MAX_VALUE), NONE);
    }

    private static void countSets() {
        sentence("promise 9");
        dueSets("[a][b]", 2);
        dueSets("[[a]", 2);
        dueSets("[a[b]c]", 2);
        dueSets("[[]", 1);
        dueSets("[[]]", 2);
        dueSets("[]", 0);
        dueSets("[]]", 1);
        dueSets("[!]", 0);
        dueSets("[!]]", 1);
        dueSets("[\\!]", 1);
        dueSets("[a", 0);
        dueSets("[a\\]", 0);
        dueSets("\\[a]", 0);
        dueSets("[\\[a]", 1);
        dueSets("[![!]", 1);
        dueSets("[![!]]", 2);
        dueSets("[".repeat(199) + "]", 198);
        dueSets("[".repeat(200), 0);
    }

    private static void askingChangesNothing() {
        sentence("promise all");
        NamePattern x = made("*[b-d]\\*", "abc*");
        for (int round = 0; round < 3; round++) {
            due("asked again: matches", x.matches(), true);
            due("asked again: beginning", x.cut(false, false), 4);
            due("asked again: end", x.cut(true, false), 2);
            due("asked again: longest end", x.cut(true, true), 4);
            due("asked again: part", x.part(1, 3), false);
            due("asked again: special", x.isSpecial(), true);
            due("asked again: sets", x.count(3), 1);
        }
        due("asked: text stays", x.count(0), 4);
        due("asked: pattern stays", x.count(1), 7);
        due("asked: quoted stays", x.count(2), 1);
    }
}
