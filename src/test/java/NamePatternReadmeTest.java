import java.io.IOException;
import java.nio.file.Files;
import java.nio.file.Path;
import java.util.List;

/**
 * The example in README.md: its calls are made here one by one, and each answer must be the one that
 * README.md tells behind the same call. Runs in the project's folder.
 */
public final class NamePatternReadmeTest extends Checks {
    private static List<String> lines;
    private static int next = 0;

    public static void main(String[] args) throws IOException {
        sentence("README.md");
        lines = exampleOf(Files.readAllLines(Path.of("README.md")));
        NamePattern x = new NamePattern();
        dueLine("NamePattern x = new NamePattern();", "");
        dueLine("x.text(0x612e747874L, 5);", x.text(0x612e747874L, 5));
        dueLine("x.pattern(0x2a2eL, 2, 0);", x.pattern(0x2a2eL, 2, 0));
        dueLine("x.pattern(0x5b612d7a5dL, 5, 0);", x.pattern(0x5b612d7a5dL, 5, 0));
        dueLine("x.matches();", x.matches());
        dueLine("x.part(1, 3);", x.part(1, 3));
        dueLine("x.cut(false, true);", x.cut(false, true));
        dueLine("x.cut(true, false);", x.cut(true, false));
        dueLine("x.isSpecial();", x.isSpecial());
        dueLine("x.count(3);", x.count(3));
        dueLine("x.clear();", x.clear());
        dueLine("x.text(0x2a61L, 2);", x.text(0x2a61L, 2));
        dueLine("x.pattern(0x2a3fL, 2, 1);", x.pattern(0x2a3fL, 2, 1));
        dueLine("x.matches();", x.matches());
        dueLine("x.count(2);", x.count(2));
        due("lines of the example", lines.size(), next);
        setsAsRead();
        end("the example answers as README.md tells");
    }

    private static List<String> exampleOf(List<String> readme) {
        int from = readme.indexOf("```java") + 1;
        return readme.subList(from, from + readme.subList(from, readme.size()).indexOf("```"));
    }

    private static void dueLine(String call, Object answer) {
        String line = next < lines.size() ? lines.get(next) : "";
        next++;
        String told = line.replaceFirst(" +// ([^:]*):.*", "$1");
        due(call + " answers " + answer + " as in: " + line, told.equals(call + answer), true);
    }

    private static void setsAsRead() {
        dueMatch("[!]", "[!]", true);
        dueMatch("[!]", "!", false);
        dueMatch("[!]]", "]", false);
        dueMatch("[!]]", "a", true);
        dueMatch("[a-]z]", "-z]", true);
        dueMatch("[a-]z]", "b", false);
        dueMatch("[c-a]", "b", false);
        dueMatch("[!c-a]", "b", true);
    }
}
