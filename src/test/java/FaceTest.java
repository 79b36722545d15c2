import java.io.IOException;
import java.lang.reflect.Constructor;
import java.lang.reflect.Field;
import java.lang.reflect.Method;
import java.lang.reflect.Modifier;
import java.nio.file.Files;
import java.nio.file.Path;
import java.util.Arrays;
import java.util.HashSet;
import java.util.List;
import java.util.Set;
import java.util.TreeSet;

/** The document's face, and what of LANGUAGE.md can be seen in the class and in its text. */
public final class FaceTest {
    private static final Due DUE = new Due("FaceTest");
    private static final String CONSTANTS = "BAD -1 NOT -2 FULL -3 NONE -4 NULL -11 CAST -12 INDEX -13 SIZE -14";
    /** Each method with its number of ints; item has a long more. */
    private static final String METHODS = "man 3 name 2 of 2 named 2 values 2 stones 1 type 1 parish 0 count 1 marches 1 "
        + "train 1 hire 2 swap 2 drift 1 undo 0 seed 1 ahead 3 nameAhead 3 needs 2 field 1 parting 1 change 1 luck 3 top 2 "
        + "image 0 restore 0 ledger 5 film 5 sheet 3 drop 1 item 4 copy 5";
    private static final String[] NOT_IN_TEXT = {"catch", "finally", "synchronized", "assert", "->", "::", "double", "float",
        "Exact(", "hashCode", "toString()", "getClass", "static {", "native", "System.out", "System.nano", "System.current",
        "Random", "Thread", "Object ", "@", "var "};

    public static void main(String[] args) throws IOException {
        constants();
        methods();
        members();
        nested();
        text();
        DUE.end();
    }

    private static void is(String what, boolean so) {
        DUE.is(what, so ? 1 : 0, 1);
    }

    private static void constants() {
        DUE.promise(1, "the constants");
        String[] due = CONSTANTS.split(" ");
        int seen = 0;
        for (Field f : FurrowNames.class.getDeclaredFields()) {
            int at = Arrays.asList(due).indexOf(f.getName());
            if (at < 0) {
                is("field " + f.getName() + " is private", Modifier.isPrivate(f.getModifiers()));
                is("static " + f.getName() + " is final", !Modifier.isStatic(f.getModifiers()) || Modifier.isFinal(f.getModifiers()));
            } else {
                seen++;
                is(f.getName() + " is public static final int", f.getType() == int.class
                    && f.getModifiers() == (Modifier.PUBLIC | Modifier.STATIC | Modifier.FINAL));
                DUE.is(f.getName(), constant(f), Integer.parseInt(due[at + 1]));
            }
        }
        DUE.is("how many constants", seen, 8);
    }

    private static int constant(Field f) {
        try {
            return f.getInt(null);
        } catch (IllegalAccessException e) {
            return 0;
        }
    }

    private static void methods() {
        DUE.promise(1, "the methods");
        String[] due = METHODS.split(" ");
        is("final class", Modifier.isFinal(FurrowNames.class.getModifiers()));
        Constructor<?>[] makers = FurrowNames.class.getDeclaredConstructors();
        DUE.is("constructors", makers.length, 1);
        DUE.is("its arguments", makers[0].getParameterCount(), 0);
        is("it is public", Modifier.isPublic(makers[0].getModifiers()));
        int seen = 0;
        for (Method m : FurrowNames.class.getDeclaredMethods()) {
            int at = Arrays.asList(due).indexOf(m.getName());
            if (at < 0) {
                is("method " + m.getName() + " is private", Modifier.isPrivate(m.getModifiers()) || m.isSynthetic());
                continue;
            }
            seen++;
            is(m.getName() + " is public", m.getModifiers() == Modifier.PUBLIC);
            is(m.getName() + " answers an int", m.getReturnType() == int.class);
            DUE.is(m.getName() + "'s arguments", m.getParameterCount(), Integer.parseInt(due[at + 1]));
            for (int i = 0; i < m.getParameterCount(); i++) {
                boolean isLong = m.getName().equals("item") && i == 3;
                is(m.getName() + "'s argument " + i, m.getParameterTypes()[i] == (isLong ? long.class : int.class));
            }
        }
        DUE.is("how many methods", seen, 32);
    }

    private static void members() {
        DUE.promise(1, "no class has too many parts");
        Set<String> face = new HashSet<>(Arrays.asList(METHODS.split("[ 0-9]+")));
        for (Class<?> c : FurrowNames.class.getDeclaredClasses()) {
            is(c.getName() + " is static", Modifier.isStatic(c.getModifiers()) || c.isInterface());
            is(c.getName() + " is not public", !Modifier.isPublic(c.getModifiers()));
            for (Method m : c.getDeclaredMethods()) {
                is(m.getName() + " is no name of the face", !face.contains(m.getName()));
                is(m.getName() + " has at most 7 arguments", m.getParameterCount() <= 7);
            }
            for (Field f : c.getDeclaredFields()) {
                is("static " + f.getName() + " is final", !Modifier.isStatic(f.getModifiers()) || Modifier.isFinal(f.getModifiers()));
            }
        }
    }

    private static void nested() {
        DUE.promise(1, "how many classes, fields");
        is("at most twelve classes", FurrowNames.class.getDeclaredClasses().length + 1 <= 12);
        Set<Class<?>> all = new HashSet<>(Arrays.asList(FurrowNames.class.getDeclaredClasses()));
        all.add(FurrowNames.class);
        for (Class<?> c : all) {
            long fields = Arrays.stream(c.getDeclaredFields()).filter(f -> !Modifier.isStatic(f.getModifiers())).count();
            is(c.getName() + " has at most 20 fields", fields <= 20);
        }
    }

    private static void text() throws IOException {
        DUE.promise(1, "the text of the class");
        List<String> lines = Files.readAllLines(Path.of("src/main/java/FurrowNames.java"));
        Set<String> imports = new TreeSet<>();
        int from = 0;
        for (int i = 0; i < lines.size(); i++) {
            String line = lines.get(i);
            is("line " + (i + 1) + " is plain", line.chars().allMatch(c -> c >= 32 && c < 127));
            String code = line.replaceAll("//.*", "").replaceAll("/?\\*.*", "");
            for (String no : NOT_IN_TEXT) {
                is("line " + (i + 1) + " has no " + no, !code.contains(no));
            }
            if (code.startsWith("import")) {
                imports.add(code);
            }
            // A method begins where a line opens it and ends with the brace below its first letter.
            if (code.matches("( {4}| {8})[A-Za-z].*\\) \\{")) {
                from = i;
            }
            if (code.matches("( {4}| {8})\\}")) {
                is("line " + (i + 1) + " ends a short method", i - from <= 60);
            }
        }
        is("imports", imports.equals(Set.of("import java.util.Arrays;")));
    }
}
