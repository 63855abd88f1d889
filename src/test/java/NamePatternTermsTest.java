/** Each sentence of the document's Terms that names a boundary, by a test of its own. */
public final class NamePatternTermsTest extends Checks {
    private static final String ALL_CHARACTERS = allCharacters();

    public static void main(String[] args) {
        textIsUpTo400();
        textCharactersAre0To255();
        patternIsUpTo200();
        eachIsQuotedOrNot();
        starMatchesAnyRow();
        starMatchesNoneToo();
        quotedStarIsItself();
        questionMarkMatchesAnyOne();
        questionMarkMatchesNoOther();
        quotedQuestionMarkIsItself();
        unquotedBracketBeginsASet();
        quotedBracketBeginsNone();
        unquotedBracketCloses();
        quotedBracketDoesNotClose();
        unquotedTurningSign();
        quotedTurningSignIsAMember();
        laterTurningSignIsAMember();
        membersGoUpToTheFirstClose();
        firstMemberDoesNotClose();
        firstMemberBehindTheTurningSignDoesNotClose();
        aSetHasOneMemberAtLeast();
        withoutCloseTheBracketIsItself();
        withoutCloseTheRestKeepsItsMeaning();
        membersAreReadFromTheLeft();
        rangeHasAllFromXToY();
        rangeOfOneCharacter();
        rangeOverAllCharacters();
        rangeWithXAboveY();
        rangeNeedsAnUnquotedDash();
        rangeNeedsNoUnquotedEnds();
        rangeNeedsThree();
        rangeDoesNotEndInTheClose();
        rangeMayEndInAQuotedClose();
        rangeMayBeginInTheFirstMember();
        elseACharacter();
        aSetMatchesOneCharacter();
        aTurnedSetMatchesOneCharacter();
        aSetMatchesMembersAlone();
        aTurnedSetMatchesNoMember();
        allOthersMatchThemselves();
        end("all sentences of the terms hold");
    }

    private static void textIsUpTo400() {
        sentence("TEXT: up to 400 characters");
        dueMatch("", "", true);
        dueMatch("*z", "a".repeat(398) + "z", true);
        dueMatch("*z", "a".repeat(399) + "z", true);
        NamePattern x = made("", "a".repeat(400));
        due("one more", x.text('a', 1), NONE);
        due("length", x.count(0), 400);
    }

    private static void textCharactersAre0To255() {
        sentence("TEXT: characters 0 .. 255");
        for (int c = 0; c <= 255; c++) {
            NamePattern x = new NamePattern();
            x.text(c, 1);
            x.pattern(c, 1, 1);
            due("character " + c + " is itself", x.matches(), true);
            x.clear();
            x.text(c, 1);
            x.pattern(c ^ 128, 1, 1);
            due("character " + c + " is no other", x.matches(), false);
        }
    }

    private static void patternIsUpTo200() {
        sentence("PATTERN: up to 200 characters");
        dueMatch("", "a", false);
        dueMatch("a".repeat(198) + "z", "a".repeat(198) + "z", true);
        dueMatch("a".repeat(199) + "z", "a".repeat(199) + "z", true);
        dueMatch("a".repeat(199) + "z", "a".repeat(200), false);
        NamePattern x = made("a".repeat(200), "");
        due("one more", x.pattern('a', 1, 0), NONE);
        due("length", x.count(1), 200);
    }

    private static void eachIsQuotedOrNot() {
        sentence("PATTERN: each QUOTED or not");
        for (int quotedAt = 0; quotedAt < 200; quotedAt++) {
            String pattern = "?".repeat(quotedAt) + "\\?" + "?".repeat(199 - quotedAt);
            String fits = "x".repeat(quotedAt) + "?" + "x".repeat(199 - quotedAt);
            NamePattern x = made(pattern, fits);
            due("quoted at " + quotedAt, x.count(2), 1);
            due("quoted at " + quotedAt + " matches", x.matches(), true);
            dueMatch(pattern, "x".repeat(200), false);
        }
    }

    private static void starMatchesAnyRow() {
        sentence("Unquoted * matches any row of characters");
        dueMatch("*", "a", true);
        dueMatch("*", "ab", true);
        dueMatch("*", "a".repeat(399), true);
        dueMatch("*", "a".repeat(400), true);
        dueMatch("*", ALL_CHARACTERS, true);
        dueMatch("a*c", "a" + ALL_CHARACTERS + "c", true);
        dueMatch("a*c", "a" + ALL_CHARACTERS, false);
        dueMatch("*".repeat(200), "a".repeat(400), true);
        dueMatch("*a*b*", "ab", true);
        dueMatch("*a*b*", "ba", false);
    }

    private static void starMatchesNoneToo() {
        sentence("Unquoted * matches any row of characters (none, too)");
        dueMatch("*", "", true);
        dueMatch("*".repeat(200), "", true);
        dueMatch("*a", "a", true);
        dueMatch("a*", "a", true);
        dueMatch("a*b", "ab", true);
    }

    private static void quotedStarIsItself() {
        sentence("Unquoted * (quoted it matches itself)");
        dueMatch("\\*", "*", true);
        dueMatch("\\*", "", false);
        dueMatch("\\*", "a", false);
        dueMatch("\\*", "**", false);
    }

    private static void questionMarkMatchesAnyOne() {
        sentence("unquoted ? any one");
        for (int c = 0; c <= 255; c++) {
            dueMatch("?", String.valueOf((char) c), true);
        }
        dueMatch("?".repeat(200), "a".repeat(200), true);
    }

    private static void questionMarkMatchesNoOther() {
        sentence("unquoted ? any one (not none, not two)");
        dueMatch("?", "", false);
        dueMatch("?", "ab", false);
        dueMatch("??", "a", false);
        dueMatch("?".repeat(200), "a".repeat(199), false);
        dueMatch("?".repeat(200), "a".repeat(201), false);
    }

    private static void quotedQuestionMarkIsItself() {
        sentence("unquoted ? (quoted it matches itself)");
        dueMatch("\\?", "?", true);
        dueMatch("\\?", "a", false);
        dueMatch("\\?", "", false);
    }

    private static void unquotedBracketBeginsASet() {
        sentence("An unquoted [ begins a SET");
        dueMatch("[a]", "a", true);
        dueMatch("[a]", "[a]", false);
        dueSets("[a]", 1);
        dueMatch("a".repeat(197) + "[b]", "a".repeat(197) + "b", true);
        dueSets("a".repeat(197) + "[b]", 1);
    }

    private static void quotedBracketBeginsNone() {
        sentence("An unquoted [ begins a SET (a quoted one does not)");
        dueMatch("\\[a]", "[a]", true);
        dueMatch("\\[a]", "a", false);
        dueSets("\\[a]", 0);
    }

    private static void unquotedBracketCloses() {
        sentence("if an unquoted ] closes it");
        dueMatch("[a]b", "ab", true);
        dueMatch("[" + "a".repeat(197) + "b]", "b", true);
        dueSets("[" + "a".repeat(198) + "]", 1);
    }

    private static void quotedBracketDoesNotClose() {
        sentence("if an unquoted ] closes it (a quoted one does not)");
        dueMatch("[a\\]", "[a]", true);
        dueMatch("[a\\]", "a", false);
        dueSets("[a\\]", 0);
        dueMatch("[a\\]b]", "]", true);
        dueMatch("[a\\]b]", "b", true);
        dueMatch("[a\\]b]", "ab]", false);
        dueMatch("[" + "\\]".repeat(199), "[" + "]".repeat(199), true);
    }

    private static void unquotedTurningSign() {
        sentence("behind the [ perhaps an unquoted !");
        dueMatch("[!a]", "a", false);
        dueMatch("[!a]", "b", true);
        dueMatch("[!a]", "!", true);
        dueMatch("[!!]", "!", false);
        dueMatch("[!!]", "a", true);
    }

    private static void quotedTurningSignIsAMember() {
        sentence("perhaps an unquoted ! (a quoted one is a member)");
        dueMatch("[\\!a]", "!", true);
        dueMatch("[\\!a]", "a", true);
        dueMatch("[\\!a]", "b", false);
        dueMatch("[\\!]", "!", true);
        dueMatch("[\\!]", "[!]", false);
        dueMatch("[\\!]]", "!]", true);
        dueMatch("[!\\!]", "!", false);
        dueMatch("[!\\!]", "a", true);
    }

    private static void laterTurningSignIsAMember() {
        sentence("behind the [ perhaps an unquoted ! (further behind it is a member)");
        dueMatch("[a!]", "!", true);
        dueMatch("[a!]", "a", true);
        dueMatch("[a!]", "b", false);
    }

    private static void membersGoUpToTheFirstClose() {
        sentence("then its members up to the ]");
        dueMatch("[ab]c]", "ac]", true);
        dueMatch("[ab]c]", "bc]", true);
        dueMatch("[ab]c]", "c", false);
        dueMatch("[a]]", "a]", true);
        dueMatch("[a]]", "]", false);
        dueMatch("[a]*[b]", "ab", true);
        dueMatch("[a]*[b]", "*", false);
    }

    private static void firstMemberDoesNotClose() {
        sentence("but a ] that is the first of them is a member");
        dueMatch("[]]", "]", true);
        dueMatch("[]]", "a", false);
        dueMatch("[]a]", "]", true);
        dueMatch("[]a]", "a", true);
        dueMatch("[]a]", "[]a]", false);
        dueMatch("[]]]", "]]", true);
        dueMatch("[\\]]", "]", true);
        dueMatch("[\\]]]", "]]", true);
        dueSets("[]]", 1);
    }

    private static void firstMemberBehindTheTurningSignDoesNotClose() {
        sentence("a ] that is the first of them is a member (also behind the !)");
        dueMatch("[!]]", "]", false);
        dueMatch("[!]]", "a", true);
        dueMatch("[!]]", "!", true);
        dueMatch("[!]a]", "a", false);
        dueMatch("[!]a]", "b", true);
        dueMatch("[!]]]", "a]", true);
        dueSets("[!]]", 1);
    }

    private static void aSetHasOneMemberAtLeast() {
        sentence("(so a set has one member at least)");
        dueMatch("[]", "[]", true);
        dueMatch("[]", "", false);
        dueMatch("[]", "]", false);
        dueMatch("[!]", "[!]", true);
        dueMatch("[!]", "a", false);
        dueMatch("[!]", "!", false);
        dueSets("[]", 0);
        dueSets("[!]", 0);
        dueSets("[a]", 1);
        dueSets("[!a]", 1);
    }

    private static void withoutCloseTheBracketIsItself() {
        sentence("without such a ] the [ is itself");
        dueMatch("[", "[", true);
        dueMatch("[", "", false);
        dueMatch("[", "a", false);
        dueMatch("[a", "[a", true);
        dueMatch("[a", "a", false);
        dueMatch("[!", "[!", true);
        dueMatch("[!a", "[!a", true);
        dueMatch("[a-", "[a-", true);
        dueMatch("a[", "a[", true);
        dueMatch("[".repeat(200), "[".repeat(200), true);
        dueMatch("a".repeat(199) + "[", "a".repeat(199) + "[", true);
        dueMatch("a".repeat(198) + "[!", "a".repeat(198) + "[!", true);
    }

    private static void withoutCloseTheRestKeepsItsMeaning() {
        sentence("without such a ] the [ is itself (what is behind it keeps its meaning)");
        dueMatch("[*", "[", true);
        dueMatch("[*", "[abc", true);
        dueMatch("[?", "[a", true);
        dueMatch("[?", "[", false);
        dueMatch("[a-c", "[b", false);
        dueMatch("[[", "[[", true);
    }

    private static void membersAreReadFromTheLeft() {
        sentence("MEMBERS, from the left");
        dueMatch("[a-c-e]", "b", true);
        dueMatch("[a-c-e]", "-", true);
        dueMatch("[a-c-e]", "e", true);
        dueMatch("[a-c-e]", "d", false);
        dueMatch("[xa-c]", "x", true);
        dueMatch("[xa-c]", "b", true);
        dueMatch("[xa-c]", "y", false);
        dueMatch("[a-ce-g]", "f", true);
        dueMatch("[a-ce-g]", "d", false);
        dueMatch("[--a-c]", "a", true);
        dueMatch("[--a-c]", "b", false);
        dueMatch("[--a-c]", "c", true);
    }

    private static void rangeHasAllFromXToY() {
        sentence("x - y: all characters from x to y");
        dueMatch("[b-d]", "a", false);
        dueMatch("[b-d]", "b", true);
        dueMatch("[b-d]", "c", true);
        dueMatch("[b-d]", "d", true);
        dueMatch("[b-d]", "e", false);
        dueMatch("[b-d]", "-", false);
        dueMatch("[\u007f-\u0081]", "\u007e", false);
        dueMatch("[\u007f-\u0081]", "\u0080", true);
        dueMatch("[\u007f-\u0081]", "\u0082", false);
    }

    private static void rangeOfOneCharacter() {
        sentence("all characters from x to y (x equal to y)");
        dueMatch("[c-c]", "c", true);
        dueMatch("[c-c]", "b", false);
        dueMatch("[c-c]", "d", false);
        dueMatch("[c-c]", "-", false);
        dueMatch("[---]", "-", true);
        dueMatch("[---]", "a", false);
    }

    private static void rangeOverAllCharacters() {
        sentence("all characters from x to y (x 0, y 255)");
        for (int c = 0; c <= 255; c++) {
            dueMatch("[\u0000-\u00ff]", String.valueOf((char) c), true);
            dueMatch("[!\u0000-\u00ff]", String.valueOf((char) c), false);
        }
    }

    private static void rangeWithXAboveY() {
        sentence("all characters from x to y (x above y)");
        dueMatch("[d-b]", "b", false);
        dueMatch("[d-b]", "c", false);
        dueMatch("[d-b]", "d", false);
        dueMatch("[d-b]", "-", false);
        dueMatch("[!d-b]", "c", true);
        dueMatch("[!d-b]", "-", true);
        dueMatch("[d-bx]", "x", true);
        dueMatch("[\u00ff-\u0000]", "\u0000", false);
        dueMatch("[\u00ff-\u0000]", "\u00ff", false);
        dueSets("[d-b]", 1);
    }

    private static void rangeNeedsAnUnquotedDash() {
        sentence("x - y, the - unquoted");
        dueMatch("[b\\-d]", "b", true);
        dueMatch("[b\\-d]", "-", true);
        dueMatch("[b\\-d]", "d", true);
        dueMatch("[b\\-d]", "c", false);
    }

    private static void rangeNeedsNoUnquotedEnds() {
        sentence("x - y, the - unquoted (x and y as they may be)");
        dueMatch("[\\b-d]", "c", true);
        dueMatch("[b-\\d]", "c", true);
        dueMatch("[\\b-\\d]", "c", true);
        dueMatch("[\\!-\\-]", "+", true);
    }

    private static void rangeNeedsThree() {
        sentence("x - y, three of them");
        dueMatch("[-d]", "-", true);
        dueMatch("[-d]", "d", true);
        dueMatch("[-d]", "a", false);
        dueMatch("[!-d]", "-", false);
        dueMatch("[!-d]", "d", false);
        dueMatch("[!-d]", "a", true);
        dueMatch("[-]", "-", true);
        dueMatch("[--]", "-", true);
        dueMatch("[--]", "]", false);
    }

    private static void rangeDoesNotEndInTheClose() {
        sentence("x - y, y not the closing ]");
        dueMatch("[A-]", "A", true);
        dueMatch("[A-]", "-", true);
        dueMatch("[A-]", "]", false);
        dueMatch("[A-]", "B", false);
        dueMatch("[A-]z]", "-z]", true);
        dueMatch("[A-]z]", "B", false);
        dueMatch("[]-]", "]", true);
        dueMatch("[]-]", "-", true);
        dueMatch("[!A-]", "B", true);
        dueMatch("[!A-]", "-", false);
        dueMatch("[a-cA-]", "B", false);
        dueMatch("[a-cA-]", "-", true);
    }

    private static void rangeMayEndInAQuotedClose() {
        sentence("x - y, y not the closing ] (a quoted ] closes nothing)");
        dueMatch("[A-\\]]", "B", true);
        dueMatch("[A-\\]]", "]", true);
        dueMatch("[A-\\]]", "^", false);
        dueMatch("[A-\\]]", "-", false);
    }

    private static void rangeMayBeginInTheFirstMember() {
        sentence("x - y, x a ] that is the first of them");
        dueMatch("[]-a]", "]", true);
        dueMatch("[]-a]", "^", true);
        dueMatch("[]-a]", "a", true);
        dueMatch("[]-a]", "-", false);
        dueMatch("[!]-a]", "^", false);
        dueMatch("[!]-a]", "-", true);
    }

    private static void elseACharacter() {
        sentence("else a character");
        dueMatch("[*]", "*", true);
        dueMatch("[*]", "", false);
        dueMatch("[*]", "ab", false);
        dueMatch("[?]", "?", true);
        dueMatch("[?]", "a", false);
        dueMatch("[[]", "[", true);
        dueMatch("[[a]", "[", true);
        dueMatch("[[a]", "[a", false);
        dueMatch("[\\a]", "a", true);
        dueMatch("[\u0000]", "\u0000", true);
        dueMatch("[\u00ff]", "\u00ff", true);
        dueMatch("[\u00ff]", "\u007f", false);
    }

    private static void aSetMatchesOneCharacter() {
        sentence("A set matches one character");
        dueMatch("[ab]", "", false);
        dueMatch("[ab]", "a", true);
        dueMatch("[ab]", "ab", false);
        dueMatch("[ab][ab]", "a", false);
        dueMatch("[ab][ab]", "ba", true);
    }

    private static void aTurnedSetMatchesOneCharacter() {
        sentence("A set matches one character, with ! (not none, not two)");
        dueMatch("[!ab]", "", false);
        dueMatch("[!ab]", "x", true);
        dueMatch("[!ab]", "xy", false);
    }

    private static void aSetMatchesMembersAlone() {
        sentence("one character that is a member");
        for (int c = 0; c <= 255; c++) {
            boolean member = c == 'a' || c >= 'p' && c <= 's' || c == 0;
            dueMatch("[ap-s\u0000]", String.valueOf((char) c), member);
        }
    }

    private static void aTurnedSetMatchesNoMember() {
        sentence("with ! one that is none");
        for (int c = 0; c <= 255; c++) {
            boolean member = c == 'a' || c >= 'p' && c <= 's' || c == 255;
            dueMatch("[!ap-s\u00ff]", String.valueOf((char) c), !member);
        }
    }

    private static void allOthersMatchThemselves() {
        sentence("All other characters match themselves");
        for (int c = 0; c <= 255; c++) {
            if (c == '*' || c == '?') {
                continue;
            }
            NamePattern x = new NamePattern();
            x.pattern(c, 1, 0);
            x.text(c, 1);
            due("unquoted " + c, x.matches(), true);
            x.clear();
            x.pattern(c, 1, 0);
            x.text((c + 1) % 256, 1);
            due("unquoted " + c + " against the next", x.matches(), false);
        }
        dueMatch("]", "]", true);
        dueMatch("a]", "a]", true);
        dueMatch("!a", "!a", true);
        dueMatch("a-c", "a-c", true);
        dueMatch("a-c", "b", false);
        dueMatch("a", "A", false);
    }

    private static String allCharacters() {
        StringBuilder made = new StringBuilder();
        for (int c = 0; c <= 255; c++) {
            made.append((char) c);
        }
        return made.toString();
    }
}
