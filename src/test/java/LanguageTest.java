import java.io.IOException;
import java.lang.reflect.Field;
import java.lang.reflect.Method;
import java.lang.reflect.Modifier;
import java.nio.file.Files;
import java.nio.file.Path;
import java.util.ArrayDeque;
import java.util.ArrayList;
import java.util.Deque;
import java.util.HashSet;
import java.util.List;
import java.util.Set;
import java.util.regex.Matcher;
import java.util.regex.Pattern;

/** The rules of LANGUAGE.md, as far as the source and the compiled class show them. */
final class LanguageTest {
    private static final Path SOURCE = Path.of("src/main/java/TableauBench.java");
    private static final Set<String> THROWN = Set.of("IllegalStateException",
            "IllegalArgumentException", "IndexOutOfBoundsException", "ArithmeticException",
            "UnsupportedOperationException", "NoSuchElementException", "RuntimeException");
    private static final Set<String> LIBRARY = Set.of("Arrays.fill", "Arrays.copyOf",
            "Arrays.copyOfRange", "System.arraycopy", "Math.max", "Math.min", "Math.abs",
            "Math.floorDiv", "Math.floorMod", "Integer.bitCount", "Long.bitCount",
            "Integer.compare", "Long.compare");

    private final String code;
    private final List<Class<?>> classes = new ArrayList<>();

    private LanguageTest(String source) {
        code = withoutCommentsAndTexts(source);
        classes.add(TableauBench.class);
        for (int i = 0; i < classes.size(); i++) {
            classes.addAll(List.of(classes.get(i).getDeclaredClasses()));
        }
    }

    public static void main(String[] args) throws IOException {
        LanguageTest test = new LanguageTest(Files.readString(SOURCE));
        test.nestedClasses();
        test.types();
        test.library();
        test.staticFields();
        test.exceptions();
        test.loopsAndTexts();
        test.sizes();
        test.objects();
        Check.end();
    }

    /** Lines stay where they are; a text becomes "" and a character ' '. */
    private static String withoutCommentsAndTexts(String source) {
        Pattern other = Pattern.compile(
                "//[^\n]*|/\\*.*?\\*/|\"(\\\\.|[^\"\\\\])*\"|'(\\\\.|[^'\\\\])'", Pattern.DOTALL);
        return other.matcher(source).replaceAll(m -> {
            String s = m.group();
            return s.startsWith("\"") ? "\"\"" : s.startsWith("'") ? "' '"
                    : s.replaceAll("[^\n]", " ");
        });
    }

    private void hasNot(String... patterns) {
        for (String pattern : patterns) {
            Check.isFalse(pattern + " is there", Pattern.compile(pattern).matcher(code).find());
        }
    }

    private void nestedClasses() {
        Check.sentence("rules 1 and 2");
        for (Class<?> c : classes.subList(1, classes.size())) {
            int mods = c.getModifiers();
            Check.isTrue("static " + c, Modifier.isStatic(mods));
            Check.isFalse("shown " + c, Modifier.isPublic(mods) || Modifier.isProtected(mods));
        }
        hasNot("\\bpackage\\b", "->", "::");
    }

    private void types() {
        Check.sentence("rule 3");
        for (Class<?> c : classes) {
            for (Field f : c.getDeclaredFields()) {
                Check.isTrue("type of " + f, isAllowed(f.getType()));
            }
        }
        hasNot("\\bfloat\\b", "\\bdouble\\b", "\\[\\]\\s*\\[\\]\\s*\\[\\]", "\\bObject\\b",
                "\\bvar\\b");
    }

    private boolean isAllowed(Class<?> type) {
        if (!type.isArray()) {
            return type.isPrimitive() || type == String.class || classes.contains(type);
        }
        Class<?> part = type.getComponentType();
        return part.isPrimitive() || classes.contains(part)
                || part.isArray() && part.getComponentType().isPrimitive();
    }

    private void library() {
        Check.sentence("rules 4 and 13");
        Matcher imports = Pattern.compile("import ([\\w.* ]+);").matcher(code);
        while (imports.find()) {
            Check.isTrue("import " + imports.group(1),
                    Set.of("java.util.Arrays", "java.util.NoSuchElementException")
                            .contains(imports.group(1)));
        }
        Set<String> own = new HashSet<>(THROWN);
        classes.forEach(c -> own.add(c.getSimpleName()));
        Matcher names = Pattern.compile("\\b[A-Z]\\w*[a-z]\\w*(\\.\\w+)?").matcher(code);
        while (names.find()) {
            String name = names.group();
            Check.isTrue("name " + name,
                    own.contains(name.replaceAll("\\..*", "")) || LIBRARY.contains(name)
                            || name.equals("Arrays") || name.equals("String"));
        }
    }

    private void staticFields() {
        Check.sentence("rule 5");
        for (Class<?> c : classes) {
            for (Field f : c.getDeclaredFields()) {
                if (Modifier.isStatic(f.getModifiers())) {
                    Check.isTrue("final " + f, Modifier.isFinal(f.getModifiers()));
                    Class<?> part = f.getType().isArray() ? f.getType().getComponentType()
                            : f.getType();
                    Check.isTrue("type of " + f, Set.of(int.class, long.class, boolean.class,
                            char.class, byte.class, String.class).contains(part));
                }
            }
        }
        hasNot("static\\s*\\{");
    }

    private void exceptions() {
        Check.sentence("rule 6");
        Matcher thrown = Pattern.compile("\\bthrow\\b(\\s+new\\s+(\\w+)\\((\"\")?\\);)?")
                .matcher(code);
        while (thrown.find()) {
            Check.isTrue(thrown.group(), thrown.group(2) != null
                    && THROWN.contains(thrown.group(2)));
        }
        hasNot("\\bfinally\\b", "\\btry\\s*\\(", "\\bsynchronized\\b", "\\bassert\\b",
                "\\bgetMessage\\b", "\\bextends\\s+\\w*Exception",
                "\\.(equals|hashCode|toString)\\b");
    }

    private void loopsAndTexts() {
        Check.sentence("rules 9 and 10");
        hasNot("while\\s*\\(\\s*true", "for\\s*\\([^;]*;\\s*;", "\"\"\\s*\\+", "\\+\\s*\"\"");
    }

    private void sizes() {
        Check.sentence("rule 11");
        Check.isTrue("at most 12 classes: " + classes.size(), classes.size() <= 12);
        for (Class<?> c : classes) {
            int fields = 0;
            for (Field f : c.getDeclaredFields()) {
                fields += Modifier.isStatic(f.getModifiers()) ? 0 : 1;
            }
            Check.isTrue("at most 20 fields in " + c, fields <= 20);
            for (Method m : c.getDeclaredMethods()) {
                Check.isTrue("at most 7 parameters of " + m, m.getParameterCount() <= 7);
            }
        }
        int methods = 0;
        for (Block b : methods()) {
            methods++;
            Check.isTrue(b.header + " has at most 60 lines: " + b.lines, b.lines <= 60);
        }
        Check.isTrue("methods are found", methods >= 21);
    }

    /** Objects are made with the bench and thrown, but by no call for itself. */
    private void objects() {
        Check.sentence("rule 12: keep it small");
        for (Block b : methods()) {
            boolean constructor = b.header.matches("(public )?\\w+\\(.*");
            Check.isTrue("nothing made in " + b.header,
                    constructor || !b.body.replaceAll("throw\\s+new\\b", "")
                            .matches("(?s).*\\bnew\\b.*"));
        }
        hasNot("\\.clone\\b");
    }

    private static final class Block {
        String header;
        String body;
        int start;
        int lines;
    }

    /** The blocks with a list of parameters that stand in a class and not in another block. */
    private List<Block> methods() {
        List<Block> found = new ArrayList<>();
        Deque<Block> open = new ArrayDeque<>();
        int after = 0;
        for (int i = 0; i < code.length(); i++) {
            char c = code.charAt(i);
            if (c == '{') {
                Block b = new Block();
                b.header = code.substring(after, i).trim().replaceAll("\\s+", " ");
                b.start = i;
                open.push(b);
            } else if (c == '}') {
                Block b = open.pop();
                b.body = code.substring(b.start, i);
                b.lines = (int) b.body.lines().count();
                if (b.header.contains("(") && open.peek().header.contains("class ")) {
                    found.add(b);
                }
            }
            // The parts of a for stand between ; too, but never before a method.
            after = c == '{' || c == '}' || c == ';' ? i + 1 : after;
        }
        return found;
    }
}
