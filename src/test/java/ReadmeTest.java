import java.io.IOException;
import java.lang.reflect.Method;
import java.lang.reflect.Modifier;
import java.nio.file.DirectoryStream;
import java.nio.file.Files;
import java.nio.file.Path;
import java.util.regex.Matcher;
import java.util.regex.Pattern;

/** README.md is true: its example, its table of calls, and the tests that it names. */
public final class ReadmeTest {
    private static final Path TESTS = Path.of("src/test/java");
    private static final Pattern CALL = Pattern.compile("`(\\w+)\\(([^)]*)\\)`");
    private static final Pattern TEST_METHOD = Pattern.compile("`(\\w+Test)?\\.?(\\w*)");

    private static final Due DUE = new Due();

    public static void main(String[] args) throws IOException {
        String readme = Files.readString(Path.of("README.md"));
        exampleHasItsLines(readme);
        exampleAnswers();
        everyCallIsTold(readme);
        everyTestIsTold(readme);
        toldTestsExist(readme);
        DUE.end();
    }

    /** The calls of exampleAnswers are those that the file has, in their order. */
    private static void exampleHasItsLines(String readme) {
        String[] lines = {
            "SixWayGas gas = new SixWayGas(8, 8);", "gas.mass(1);", "gas.body(4, 4, true);", "gas.set(3, 4, 1);",
            "int mark = gas.mark(3, 4, 0);", "gas.step(1);", "gas.edge(5, 4);", "gas.account(0);",
            "gas.book(3, 1);", "gas.marked(mark);",
        };
        String block = readme.substring(readme.indexOf("```java") + 8);
        String[] told = block.substring(0, block.indexOf("```")).strip().split("\n");
        DUE.equal("lines of the example", told.length, lines.length);
        for (int i = 0; i < Math.min(told.length, lines.length); i++) {
            DUE.text("line " + i, told[i].replaceFirst("//.*", "").strip(), lines[i]);
        }
    }

    private static void exampleAnswers() {
        SixWayGas gas = new SixWayGas(8, 8);
        gas.mass(1);
        DUE.yes("body is new", gas.body(4, 4, true));
        gas.set(3, 4, 1);
        int mark = gas.mark(3, 4, 0);
        DUE.equal("step", gas.step(1), 1);
        DUE.equal("edge", gas.edge(5, 4), 4);
        DUE.equal("account", gas.account(0), 1);
        DUE.equal("book", gas.book(3, 1), -2);
        DUE.equal("marked", gas.marked(mark), 128 * 4 + 8 * 5 + 3);
    }

    private static void everyCallIsTold(String readme) {
        for (Method method : SixWayGas.class.getDeclaredMethods()) {
            if (Modifier.isPublic(method.getModifiers())) {
                DUE.yes("README.md tells " + method, tells(readme, method));
            }
        }
    }

    private static boolean tells(String readme, Method method) {
        Matcher call = CALL.matcher(readme);
        while (call.find()) {
            String taken = call.group(2);
            int parameters = taken.isEmpty() ? 0 : taken.split(",").length;
            if (call.group(1).equals(method.getName()) && parameters == method.getParameterCount()) {
                return true;
            }
        }
        return false;
    }

    private static void everyTestIsTold(String readme) throws IOException {
        try (DirectoryStream<Path> files = Files.newDirectoryStream(TESTS, "*Test.java")) {
            for (Path file : files) {
                String name = file.getFileName().toString().replace(".java", "");
                DUE.yes("README.md tells " + name, readme.contains("`" + name));
            }
        }
    }

    /** In a row of the tables a name behind a mere dot is a method of the test named last. */
    private static void toldTestsExist(String readme) throws IOException {
        for (String row : readme.split("\n")) {
            String test = null;
            Matcher named = TEST_METHOD.matcher(row);
            while (row.startsWith("|") && named.find()) {
                boolean isMethod = row.startsWith(".", named.start() + 1);
                if (named.group(1) != null) {
                    test = Files.readString(TESTS.resolve(named.group(1) + ".java"));
                }
                if (test != null && (named.group(1) != null || isMethod)) {
                    DUE.yes(row + ": " + named.group(), test.contains("void " + named.group(2)));
                }
            }
        }
    }
}
