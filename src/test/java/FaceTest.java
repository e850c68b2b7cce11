import java.io.IOException;
import java.lang.reflect.Constructor;
import java.lang.reflect.Field;
import java.lang.reflect.Method;
import java.lang.reflect.Modifier;
import java.nio.file.Files;
import java.nio.file.Path;
import java.util.Arrays;
import java.util.Set;
import java.util.TreeSet;

/** The public face is the document's and no more, and the source keeps to some rules of LANGUAGE.md. */
final class FaceTest {
    private static final Set<String> FACE = Set.of(
        "public static final int MirrorLog.NONE",
        "public static final int MirrorLog.FULL",
        "public MirrorLog()",
        "public boolean MirrorLog.feed(int)",
        "public int MirrorLog.row(int)",
        "public boolean MirrorLog.endGroup()",
        "public boolean MirrorLog.crash(int,int)",
        "public int MirrorLog.reopen()",
        "public int MirrorLog.byteAt(int,int) throws java.lang.ArrayIndexOutOfBoundsException",
        "public boolean MirrorLog.poke(int,int,int)",
        "public int MirrorLog.repaired()",
        "public int MirrorLog.badAt()",
        "public boolean MirrorLog.move(int)",
        "public int MirrorLog.rows(int)",
        "public boolean MirrorLog.same()");
    private static final Check CHECK = new Check();

    public static void main(String[] args) throws IOException {
        face();
        classesInside();
        source();
        CHECK.finish("FaceTest");
    }

    private static void face() {
        Set<String> seen = new TreeSet<>();
        for (Field field : MirrorLog.class.getDeclaredFields()) {
            if (!Modifier.isPrivate(field.getModifiers())) {
                seen.add(field.toString());
            }
        }
        for (Constructor<?> constructor : MirrorLog.class.getDeclaredConstructors()) {
            seen.add(constructor.toString());
        }
        for (Method method : MirrorLog.class.getDeclaredMethods()) {
            if (!Modifier.isPrivate(method.getModifiers())) {
                seen.add(method.toString());
            }
        }
        CHECK.due("the face " + seen, seen.equals(FACE), true);
        CHECK.due("modifiers", MirrorLog.class.getModifiers(), Modifier.PUBLIC | Modifier.FINAL);
    }

    private static void classesInside() {
        for (Class<?> inside : MirrorLog.class.getDeclaredClasses()) {
            int modifiers = inside.getModifiers();
            CHECK.due(inside + " is static", Modifier.isStatic(modifiers), true);
            CHECK.due(inside + " is not seen", Modifier.isPublic(modifiers) || Modifier.isProtected(modifiers), false);
            for (Method method : inside.getDeclaredMethods()) {
                boolean taken = Arrays.stream(MirrorLog.class.getMethods()).anyMatch(m ->
                    m.getDeclaringClass() == MirrorLog.class && m.getName().equals(method.getName()));
                CHECK.due(method + " has a name of the face", taken, false);
            }
        }
    }

    private static void source() throws IOException {
        String source = Files.readString(Path.of("src/main/java/MirrorLog.java"));
        for (String word : new String[] {"import ", "package ", "catch", "try ", "finally", "synchronized", "assert ",
            "->", "::", "Exact(", "System.out", "static {"}) {
            CHECK.due("source has '" + word + "'", source.contains(word), false);
        }
    }
}
