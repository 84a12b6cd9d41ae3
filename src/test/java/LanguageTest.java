import java.io.IOException;
import java.lang.reflect.Array;
import java.lang.reflect.Field;
import java.lang.reflect.Method;
import java.lang.reflect.Modifier;
import java.nio.file.Files;
import java.nio.file.Path;
import java.util.Set;
import java.util.regex.Matcher;
import java.util.regex.Pattern;

/** What of LANGUAGE.md can be seen in the source; FaceTest has its rules 1 and 5. */
public final class LanguageTest {
    private static final Set<String> IMPORTS = Set.of("java.util.Arrays", "java.util.NoSuchElementException");
    private static final Set<String> LIBRARY = Set.of("Arrays.fill", "Integer.bitCount");
    private static final Set<String> THROWN = Set.of("IllegalStateException", "IllegalArgumentException",
            "IndexOutOfBoundsException", "UnsupportedOperationException", "NoSuchElementException");
    private static final String[] WORDS = {
        "package", "try", "finally", "synchronized", "assert", "native", "volatile", "transient", "Thread", "Random",
        "double", "float", "Object", "System", "String", "equals", "hashCode", "toString", "protected",
    };
    private static final int MOST_LINES = 60;
    private static final int MOST_PARAMETERS = 7;
    private static final int MOST_FIELDS = 20;
    private static final int MOST_CLASSES = 12;
    private static final int MOST_ROOM = 4000;

    private static final Due DUE = new Due();

    public static void main(String[] args) throws IOException, IllegalAccessException {
        String source = Files.readString(Path.of("src/main/java/SixWayGas.java"));
        String code = source.replaceAll("(?s)/\\*.*?\\*/", "").replaceAll("//[^\n]*", "");
        library(code);
        words(code);
        exceptions(code);
        madeInConstructors(code);
        methodLengths(code);
        classes();
        room();
        DUE.end();
    }

    /** Rule 4: only what is listed. */
    private static void library(String code) {
        Matcher imported = Pattern.compile("import ([\\w.*]+);").matcher(code);
        while (imported.find()) {
            DUE.yes("import " + imported.group(1), IMPORTS.contains(imported.group(1)));
        }
        Matcher called = Pattern.compile("\\b(Arrays|Integer|Long|Math)\\.(\\w+)").matcher(code);
        while (called.find()) {
            DUE.yes("use of " + called.group(), LIBRARY.contains(called.group()));
        }
    }

    /** Rules 2, 3, 6 and 13: what the class has no need of, and no lambda or method reference. */
    private static void words(String code) {
        for (String word : WORDS) {
            DUE.no("use of " + word, Pattern.compile("\\b" + word + "\\b").matcher(code).find());
        }
        DUE.no("a lambda", code.contains("->"));
        DUE.no("a method reference", code.contains("::"));
        DUE.no("a static block", Pattern.compile("static\\s*\\{").matcher(code).find());
    }

    /** Rule 6: each throw makes one of the listed exceptions. */
    private static void exceptions(String code) {
        Matcher thrown = Pattern.compile("\\bthrow\\b([^;]*);").matcher(code);
        while (thrown.find()) {
            String made = thrown.group(1).strip();
            boolean isListed = made.startsWith("new ") && made.endsWith("()")
                    && THROWN.contains(made.substring(4, made.length() - 2));
            DUE.yes("throw " + made, isListed);
        }
    }

    /** Rules 6 and 12: constructors do not throw, and only they make objects, but for exceptions. */
    private static void madeInConstructors(String code) {
        String rest = code;
        for (String header : new String[] {"    public SixWayGas(", "        Grid("}) {
            String body = bodyOf(code, header);
            DUE.no(header + " throws", body.contains("throw"));
            rest = rest.replace(body, "");
        }
        Matcher made = Pattern.compile("(\\S+ )?\\bnew ").matcher(rest);
        while (made.find()) {
            boolean isException = "throw ".equals(made.group(1));
            DUE.yes("made by a call: " + made.group(), isException || isFieldLine(rest, made.start()));
        }
    }

    private static boolean isFieldLine(String code, int at) {
        int start = code.lastIndexOf('\n', at) + 1;
        return code.startsWith("        final int[] ", start);
    }

    private static String bodyOf(String code, String header) {
        int start = code.indexOf("\n" + header);
        DUE.yes("there is " + header, start >= 0);
        String indent = header.substring(0, header.length() - header.stripLeading().length());
        return code.substring(start, code.indexOf("\n" + indent + "}\n", start));
    }

    /** Rule 11, by the indents of methods: 4 in the class, 8 in the classes inside it. */
    private static void methodLengths(String code) {
        int opened = 0;
        String[] lines = code.split("\n");
        for (int i = 0; i < lines.length; i++) {
            if (lines[i].matches("( {4}| {8})\\S.*") && !lines[i].strip().equals("}")) {
                opened = i;
            }
            if (lines[i].equals("    }") || lines[i].equals("        }")) {
                DUE.yes("lines of " + lines[opened].strip(), i - opened < MOST_LINES);
            }
        }
    }

    private static void classes() {
        Class<?>[] nested = SixWayGas.class.getDeclaredClasses();
        DUE.yes("classes", nested.length + 1 <= MOST_CLASSES);
        sizes(SixWayGas.class);
        for (Class<?> one : nested) {
            sizes(one);
        }
    }

    private static void sizes(Class<?> one) {
        int fields = 0;
        for (Field field : one.getDeclaredFields()) {
            fields += Modifier.isStatic(field.getModifiers()) ? 0 : 1;
        }
        DUE.yes(one + " has fields", fields <= MOST_FIELDS);
        for (Method method : one.getDeclaredMethods()) {
            DUE.yes(method + " has parameters", method.getParameterCount() <= MOST_PARAMETERS);
        }
    }

    /** All objects of one run live in one room of some millions: one of them must stay small. */
    private static void room() throws IllegalAccessException {
        int room = roomOf(new SixWayGas(16, 16));
        DUE.yes("room " + room + " is at most " + MOST_ROOM, room <= MOST_ROOM);
    }

    private static int roomOf(Object object) throws IllegalAccessException {
        if (object.getClass().isArray()) {
            return Array.getLength(object);
        }
        int room = 0;
        for (Field field : object.getClass().getDeclaredFields()) {
            if (!Modifier.isStatic(field.getModifiers())) {
                field.setAccessible(true);
                room += 1 + (field.getType().isPrimitive() ? 0 : roomOf(field.get(object)));
            }
        }
        return room;
    }
}
