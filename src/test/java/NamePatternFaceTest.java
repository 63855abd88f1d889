import java.lang.reflect.Constructor;
import java.lang.reflect.Field;
import java.lang.reflect.Member;
import java.lang.reflect.Method;
import java.lang.reflect.Modifier;
import java.util.Set;
import java.util.TreeSet;

/** The class shows the document's face, and nothing beside it but what is private. */
public final class NamePatternFaceTest {
    private static final Set<String> FACE = Set.of(
            "public static final int NamePattern.NONE",
            "public NamePattern()",
            "public int NamePattern.text(long,int)",
            "public int NamePattern.pattern(long,int,int)",
            "public int NamePattern.clear()",
            "public boolean NamePattern.matches()",
            "public boolean NamePattern.part(int,int) throws java.lang.IndexOutOfBoundsException",
            "public int NamePattern.cut(boolean,boolean)",
            "public boolean NamePattern.isSpecial()",
            "public int NamePattern.count(int)");

    public static void main(String[] args) {
        Set<String> shown = new TreeSet<>();
        for (Field field : NamePattern.class.getDeclaredFields()) {
            addIfShown(shown, field);
        }
        for (Constructor<?> constructor : NamePattern.class.getDeclaredConstructors()) {
            addIfShown(shown, constructor);
        }
        for (Method method : NamePattern.class.getDeclaredMethods()) {
            addIfShown(shown, method);
        }
        boolean right = shown.equals(FACE)
                && NamePattern.class.getModifiers() == (Modifier.PUBLIC | Modifier.FINAL)
                && NamePattern.NONE == -1;
        System.out.println(right ? "the face is the document's" : "the face is not as due: " + shown);
        if (!right) {
            System.exit(1);
        }
    }

    private static void addIfShown(Set<String> shown, Member member) {
        if (!Modifier.isPrivate(member.getModifiers())) {
            shown.add(member.toString());
        }
    }
}
