import java.lang.reflect.Constructor;
import java.lang.reflect.Field;
import java.lang.reflect.Method;
import java.lang.reflect.Modifier;
import java.util.Arrays;
import java.util.Set;
import java.util.TreeSet;
import java.util.stream.Collectors;

/** The public face is the document's, and nothing else can be seen (LANGUAGE.md, rules 1 and 5). */
public final class FaceTest {
    private static final String[] FACE = {
        "void set(int, int, int) IndexOutOfBoundsException IllegalArgumentException",
        "int get(int, int) IndexOutOfBoundsException",
        "int rule(int, int) IllegalArgumentException",
        "boolean wall(int, int, boolean) IndexOutOfBoundsException IllegalStateException",
        "void source(int, int, int) IndexOutOfBoundsException IllegalArgumentException IllegalStateException",
        "boolean sink(int, int, boolean) IndexOutOfBoundsException IllegalStateException",
        "boolean body(int, int, boolean) IndexOutOfBoundsException IllegalStateException",
        "int edge(int, int) IndexOutOfBoundsException",
        "void mass(int) IllegalArgumentException",
        "int account(int) IllegalArgumentException",
        "void seed(int)",
        "int step(int) IllegalArgumentException",
        "int back(int) IllegalArgumentException UnsupportedOperationException",
        "int sum(int, int, int, int, int) IndexOutOfBoundsException IllegalArgumentException",
        "int book(int, int) IllegalArgumentException",
        "int check()",
        "int mark(int, int, int) IndexOutOfBoundsException IllegalArgumentException NoSuchElementException"
                + " IllegalStateException UnsupportedOperationException",
        "int marked(int) IndexOutOfBoundsException",
    };

    private static final Due DUE = new Due();

    public static void main(String[] args) {
        methods();
        constructors();
        fields();
        nestedClasses();
        DUE.end();
    }

    private static void methods() {
        Set<String> seen = new TreeSet<>();
        Set<String> names = new TreeSet<>();
        for (Method method : SixWayGas.class.getDeclaredMethods()) {
            if (!method.isSynthetic() && !Modifier.isPrivate(method.getModifiers())) {
                DUE.yes(method + " is public", Modifier.isPublic(method.getModifiers()));
                DUE.no(method + " is static", Modifier.isStatic(method.getModifiers()));
                seen.add(describe(method));
                names.add(method.getName());
            }
        }
        DUE.text("the methods", seen.toString(), new TreeSet<>(Arrays.asList(FACE)).toString());
        for (Method method : SixWayGas.class.getDeclaredMethods()) {
            if (Modifier.isPrivate(method.getModifiers())) {
                DUE.no(method + " bears a public name", names.contains(method.getName()));
            }
        }
    }

    private static String describe(Method method) {
        String thrown = Arrays.stream(method.getExceptionTypes())
                .map(type -> " " + type.getSimpleName()).collect(Collectors.joining());
        String taken = Arrays.stream(method.getParameterTypes())
                .map(Class::getSimpleName).collect(Collectors.joining(", "));
        return method.getReturnType().getSimpleName() + " " + method.getName() + "(" + taken + ")" + thrown;
    }

    private static void constructors() {
        Constructor<?>[] all = SixWayGas.class.getDeclaredConstructors();
        DUE.equal("constructors", all.length, 1);
        DUE.text("the constructor", all[0].toString(), "public SixWayGas(int,int)");
        DUE.yes("the class is final", Modifier.isFinal(SixWayGas.class.getModifiers()));
    }

    private static void fields() {
        DUE.equal("NONE", SixWayGas.NONE, -1);
        for (Field field : SixWayGas.class.getDeclaredFields()) {
            boolean isNone = field.getName().equals("NONE");
            DUE.yes(field + " is private or NONE", isNone || Modifier.isPrivate(field.getModifiers()));
            staticIsFinal(field);
        }
    }

    private static void nestedClasses() {
        for (Class<?> nested : SixWayGas.class.getDeclaredClasses()) {
            int modifiers = nested.getModifiers();
            DUE.no(nested + " is public", Modifier.isPublic(modifiers) || Modifier.isProtected(modifiers));
            DUE.yes(nested + " is static", Modifier.isStatic(modifiers));
            for (Field field : nested.getDeclaredFields()) {
                staticIsFinal(field);
            }
        }
    }

    private static void staticIsFinal(Field field) {
        int modifiers = field.getModifiers();
        DUE.yes(field + " is final if static", !Modifier.isStatic(modifiers) || Modifier.isFinal(modifiers));
    }
}
