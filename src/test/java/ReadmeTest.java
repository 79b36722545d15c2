import java.io.IOException;
import java.lang.reflect.Field;
import java.lang.reflect.Method;
import java.lang.reflect.Modifier;
import java.nio.file.Files;
import java.nio.file.Path;
import java.util.List;
import java.util.Set;
import java.util.TreeSet;
import java.util.regex.Matcher;
import java.util.regex.Pattern;
import java.util.stream.Collectors;
import java.util.stream.Stream;

/** What README.md says is so: its lines of Java answer what stands behind them, its tables leave nothing out. */
public final class ReadmeTest {
    private static final Due DUE = new Due("ReadmeTest");
    private static final String MAKE = "FurrowNames x = new FurrowNames();";
    private static final Pattern CALL = Pattern.compile("x\\.(\\w+)\\(([-0-9, ]*)\\); *// (-?\\d+)(:.*)?");
    private static final Pattern TYPE = Pattern.compile("type\\(\"([^\"]*)\"\\);");
    private static FurrowNames x = null;

    public static void main(String[] args) throws IOException, ReflectiveOperationException {
        List<String> lines = Files.readAllLines(Path.of("README.md"));
        DUE.promise(1, "the lines of README.md");
        DUE.is("some lines of Java are asked", asked(lines) >= 20 ? 1 : 0, 1);
        calls(lines);
        constants(String.join(" ", lines));
        tests(lines);
        DUE.end();
    }

    private static int asked(List<String> lines) throws ReflectiveOperationException {
        boolean inJava = false;
        int asked = 0;
        for (String line : lines) {
            if (line.startsWith("```")) {
                inJava = line.equals("```java");
            } else if (inJava) {
                asked += ask(line);
            }
        }
        return asked;
    }

    /** A line that is of no known form is wrong, too: nobody would see whether it is so. */
    private static int ask(String line) throws ReflectiveOperationException {
        Matcher type = TYPE.matcher(line);
        Matcher call = CALL.matcher(line);
        if (line.equals(MAKE)) {
            x = new FurrowNames();
        } else if (type.matches()) {
            for (char letter : type.group(1).toCharArray()) {
                x.type(letter);
            }
        } else if (call.matches()) {
            DUE.is(line, answer(call.group(1), call.group(2)), Integer.parseInt(call.group(3)));
            return 1;
        } else {
            DUE.is("a line that can be asked: " + line, 0, 1);
        }
        return 0;
    }

    private static int answer(String name, String numbers) throws ReflectiveOperationException {
        Object[] values = numbers.isEmpty() ? new Object[0]
            : Stream.of(numbers.split(", ")).map(Integer::valueOf).toArray();
        Class<?>[] types = Stream.of(values).map(v -> int.class).toArray(Class<?>[]::new);
        return (Integer) FurrowNames.class.getMethod(name, types).invoke(x, values);
    }

    /** All that stands in `` in the first column of the table under a head. */
    private static Set<String> firstColumn(List<String> lines, String head) {
        Set<String> found = new TreeSet<>();
        for (int i = lines.indexOf(head) + 2; i >= 2 && i < lines.size() && lines.get(i).startsWith("|"); i++) {
            Matcher word = Pattern.compile("`(\\w+)`").matcher(lines.get(i).split("\\|")[1]);
            while (word.find()) {
                found.add(word.group(1));
            }
        }
        return found;
    }

    private static void same(String what, Set<String> said, Set<String> are) {
        if (!said.equals(are)) {
            System.out.println(what + ": README.md says " + said + ", there are " + are);
        }
        DUE.is(what, said.equals(are) ? 1 : 0, 1);
    }

    private static void calls(List<String> lines) {
        DUE.promise(1, "the table of the calls");
        Set<String> are = Stream.of(FurrowNames.class.getDeclaredMethods())
            .filter(m -> Modifier.isPublic(m.getModifiers())).map(Method::getName).collect(Collectors.toSet());
        same("calls", firstColumn(lines, "| the calls | what for |"), are);
    }

    private static void constants(String text) throws IllegalAccessException {
        DUE.promise(1, "the constants as told");
        for (Field f : FurrowNames.class.getFields()) {
            String told = f.getName() + " " + f.getInt(null);
            DUE.is(told, Pattern.compile("\\b" + told + "\\b").matcher(text).find() ? 1 : 0, 1);
        }
    }

    private static void tests(List<String> lines) throws IOException {
        DUE.promise(1, "the table of the tests");
        try (Stream<Path> files = Files.list(Path.of("src/test/java"))) {
            Set<String> are = files.map(f -> f.getFileName().toString()).filter(f -> f.endsWith("Test.java"))
                .map(f -> f.replace(".java", "")).collect(Collectors.toSet());
            same("tests", firstColumn(lines, "| test | what it holds |"), are);
        }
        DUE.is(".ci/run can be run", Files.isExecutable(Path.of(".ci/run")) ? 1 : 0, 1);
    }
}
