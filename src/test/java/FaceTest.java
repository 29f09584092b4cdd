import java.io.IOException;
import java.lang.reflect.Constructor;
import java.lang.reflect.Field;
import java.lang.reflect.Method;
import java.lang.reflect.Modifier;
import java.nio.file.Files;
import java.nio.file.Path;
import java.util.Arrays;
import java.util.TreeSet;

/** The class shows what the document's face shows, and nothing else. */
final class FaceTest {
    private static final String[] FACE = {
        "boolean shape(int, long) IndexOutOfBoundsException",
        "int row(int, int) IndexOutOfBoundsException",
        "boolean conjugate(int) IndexOutOfBoundsException",
        "int rank(int) IndexOutOfBoundsException",
        "void unrank(int, int, int) IndexOutOfBoundsException IllegalArgumentException"
                + " NoSuchElementException UnsupportedOperationException",
        "boolean letter(int, int) IndexOutOfBoundsException",
        "boolean cut(int, int) IndexOutOfBoundsException",
        "int length(int) IndexOutOfBoundsException",
        "int at(int, int) IndexOutOfBoundsException",
        "int insert(int, boolean) IndexOutOfBoundsException",
        "int entry(boolean, int, int)",
        "void recover(int) IndexOutOfBoundsException IllegalStateException",
        "void read(int) IndexOutOfBoundsException IllegalStateException",
        "boolean equivalent()",
        "int rectify(int, int, int, int) IndexOutOfBoundsException IllegalArgumentException"
                + " IllegalStateException UnsupportedOperationException",
        "void turn() IllegalStateException",
        "long draw(int, long) IndexOutOfBoundsException",
        "long standard(int) IndexOutOfBoundsException",
        "long fillings(int, int) IndexOutOfBoundsException",
        "long coefficient(int, int, int) IndexOutOfBoundsException",
        "long character(int, int) IndexOutOfBoundsException IllegalStateException"
                + " UnsupportedOperationException",
    };

    public static void main(String[] args) throws IOException {
        Class<?> face = TableauBench.class;
        int mods = face.getModifiers();
        Check.isTrue("public final", Modifier.isPublic(mods) && Modifier.isFinal(mods));
        Check.same("public constructors", face.getConstructors().length, 1);
        for (Constructor<?> c : face.getDeclaredConstructors()) {
            Check.isTrue("constructor " + c,
                    Modifier.isPublic(c.getModifiers()) && c.getParameterCount() == 0);
        }
        TreeSet<String> shown = new TreeSet<>();
        TreeSet<String> names = new TreeSet<>();
        for (Method m : face.getDeclaredMethods()) {
            if (!Modifier.isPrivate(m.getModifiers())) {
                shown.add(written(m));
                names.add(m.getName());
            }
        }
        Check.text("face", shown.toString(), new TreeSet<>(Arrays.asList(FACE)).toString());
        for (Method m : face.getDeclaredMethods()) {
            Check.isFalse("private method with a public name " + m,
                    Modifier.isPrivate(m.getModifiers()) && names.contains(m.getName()));
        }
        for (Field f : face.getDeclaredFields()) {
            Check.isTrue("private field " + f, Modifier.isPrivate(f.getModifiers()));
            Check.isTrue("static only if final " + f,
                    !Modifier.isStatic(f.getModifiers()) || Modifier.isFinal(f.getModifiers()));
        }
        for (Class<?> c : face.getDeclaredClasses()) {
            Check.isFalse("class to be seen from outside " + c,
                    Modifier.isPublic(c.getModifiers()) || Modifier.isProtected(c.getModifiers()));
        }
        asTheDocumentWritesIt();
        Check.end();
    }

    /** Each line of the document's face stands in the source, the names of parameters, too. */
    private static void asTheDocumentWritesIt() throws IOException {
        String source = Files.readString(Path.of("src/main/java/TableauBench.java"))
                .replaceAll("\\s+", " ");
        int lines = 0;
        for (String line : Files.readAllLines(Path.of("../shared/DOC.md"))) {
            if (line.startsWith("    public ") && line.endsWith(";")) {
                String due = line.trim().replace(";", " {");
                Check.isTrue("in the source: " + due, source.contains(due));
                lines++;
            }
        }
        Check.same("lines of the face", lines, FACE.length + 1);
    }

    private static String written(Method m) {
        StringBuilder s = new StringBuilder();
        s.append(m.getReturnType().getSimpleName()).append(' ').append(m.getName()).append('(');
        for (int i = 0; i < m.getParameterCount(); i++) {
            s.append(i > 0 ? ", " : "").append(m.getParameterTypes()[i].getSimpleName());
        }
        s.append(')');
        for (Class<?> e : m.getExceptionTypes()) {
            s.append(' ').append(e.getSimpleName());
        }
        return s.toString();
    }
}
