import java.io.IOException;
import java.lang.reflect.Constructor;
import java.lang.reflect.Field;
import java.lang.reflect.Member;
import java.lang.reflect.Method;
import java.lang.reflect.Modifier;
import java.nio.file.Files;
import java.nio.file.Path;
import java.util.HashSet;
import java.util.Set;
import java.util.TreeSet;

/** The public face of the document, and the rules of the language that can be looked up. */
public final class FaceTest {
    private static final Answers A = new Answers();
    private static final String[] FACE = {
        "BandPainter(int, int, int)",
        "int NONE",
        "boolean black(int, int) throws IndexOutOfBoundsException",
        "boolean clip(int, int, int, int)",
        "boolean draw(int, int, long, long)",
        "boolean ink(int, int)",
        "boolean row(int, int, int, int, long)",
        "boolean rule(int, int, int, int)",
        "boolean stamp(int, int, int)",
        "boolean turn(int)",
        "int count(int, int)",
        "int look(int)",
        "int of(int, int)",
        "int shape(int, int) throws IllegalArgumentException, IllegalStateException",
        "int top(int)",
        "long line(int, int)",
        "void eject()",
        "void mode(boolean, boolean)",
    };
    private static final String[] NOT_TO_BE_WRITTEN = {"->", "::", "finally", "synchronized", "assert ", "Exact(",
        "System.out", "random", "Random", "nanoTime", "currentTimeMillis", "catch", "package "};

    public static void main(String[] args) throws IOException {
        face();
        measures(BandPainter.class);
        for (Class<?> inside : BandPainter.class.getDeclaredClasses()) {
            measures(inside);
        }
        source();
        A.end();
    }

    private static void face() {
        A.part("the face");
        Class<BandPainter> it = BandPainter.class;
        A.due("public and final", true, Modifier.isPublic(it.getModifiers()) && Modifier.isFinal(it.getModifiers()));
        Set<String> seen = new TreeSet<>();
        Set<String> publicNames = new HashSet<>();
        for (Constructor<?> c : it.getDeclaredConstructors()) {
            addIfSeen(seen, c, "BandPainter" + list(c.getParameterTypes(), "(", ")"));
        }
        for (Field f : it.getDeclaredFields()) {
            addIfSeen(seen, f, f.getType().getSimpleName() + " " + f.getName());
        }
        for (Method m : it.getDeclaredMethods()) {
            String thrown = m.getExceptionTypes().length == 0 ? "" : list(m.getExceptionTypes(), " throws ", "");
            addIfSeen(seen, m, m.getReturnType().getSimpleName() + " " + m.getName()
                    + list(m.getParameterTypes(), "(", ")") + thrown);
            if (Modifier.isPublic(m.getModifiers())) {
                publicNames.add(m.getName());
            }
        }
        A.dueText("the face", new TreeSet<>(java.util.List.of(FACE)).toString(), seen.toString());
        for (Method m : it.getDeclaredMethods()) {
            A.due(m.getName() + " is private and bears a public one's name", false,
                    !Modifier.isPublic(m.getModifiers()) && publicNames.contains(m.getName()));
        }
        for (Class<?> inside : it.getDeclaredClasses()) {
            A.due(inside.getSimpleName() + " is static and not public", true,
                    Modifier.isStatic(inside.getModifiers()) && !Modifier.isPublic(inside.getModifiers()));
        }
        A.due("at most twelve classes", true, it.getDeclaredClasses().length < 12);
    }

    private static void measures(Class<?> it) {
        A.part("the measures of " + it.getSimpleName());
        int held = 0;
        for (Field f : it.getDeclaredFields()) {
            held += Modifier.isStatic(f.getModifiers()) ? 0 : 1;
            A.due(f.getName() + " is final if static", true,
                    !Modifier.isStatic(f.getModifiers()) || Modifier.isFinal(f.getModifiers()));
        }
        A.due("at most twenty fields", true, held <= 20);
        for (Constructor<?> c : it.getDeclaredConstructors()) {
            A.due("a constructor has at most seven parameters", true, c.getParameterCount() <= 7);
        }
        for (Method m : it.getDeclaredMethods()) {
            A.due(m.getName() + " has at most seven parameters", true, m.getParameterCount() <= 7);
            boolean itsOwn = m.getName().equals("equals") || m.getName().equals("hashCode")
                    || m.getName().equals("toString");
            A.due(m.getName() + " is one that no object has of its own", false, itsOwn);
        }
    }

    private static void addIfSeen(Set<String> seen, Member member, String text) {
        if (!Modifier.isPrivate(member.getModifiers())) {
            seen.add(text);
        }
    }

    private static String list(Class<?>[] types, String before, String behind) {
        StringBuilder text = new StringBuilder(before);
        for (int i = 0; i < types.length; i++) {
            text.append(i == 0 ? "" : ", ").append(types[i].getSimpleName());
        }
        return text.append(behind).toString();
    }

    private static void source() throws IOException {
        A.part("the source");
        String text = Files.readString(Path.of("src/main/java/BandPainter.java"));
        for (String word : NOT_TO_BE_WRITTEN) {
            A.due("contains '" + word + "'", false, text.contains(word));
        }
        for (String line : text.split("\n")) {
            A.due("a line without tabs, of at most 120 characters: " + line, true,
                    line.length() <= 120 && line.indexOf('\t') < 0);
            if (line.startsWith("import ")) {
                A.dueText("import", "import java.util.Arrays;", line);
            }
        }
    }
}
