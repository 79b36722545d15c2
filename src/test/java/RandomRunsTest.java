import java.lang.reflect.Method;
import java.util.ArrayList;
import java.util.List;
import java.util.Map;
import java.util.Random;
import java.util.TreeMap;

/** All promises: runs of 512 calls by chance (the same ones each time), the class beside the model. */
public final class RandomRunsTest {
    private static final int RUNS = 700;
    private static final int CALLS = 512;
    private static final int[] EDGES = {-1, -2, -3, -4, -5, 0, 1, 2, 3, 4, 5, 6, 7, 8, 9, 10, 20, 21, 23, 24, 25, 31, 32, 39, 40, 41,
        59, 60, 61, 126, 127, 255, 256, 65535, 65536, Integer.MIN_VALUE, Integer.MIN_VALUE + 1, Integer.MAX_VALUE - 1,
        Integer.MAX_VALUE};

    /** The calls, how often each comes, and what its arguments are: see argument(). */
    private static final String[] PLAN = {
        "man 4 kho", "name 4 ww", "of 8 m6", "named 6 n2", "values 4 mn", "stones 4 s", "type 1 t", "parish 1", "count 8 8",
        "marches 8 q", "train 5 m", "hire 4 mo", "swap 12 mm", "drift 5 q", "undo 8", "seed 2 r",
        "ahead 5 mf2", "nameAhead 4 nf1", "needs 6 mn", "field 4 m", "parting 2 p", "change 8 c", "luck 2 ml1", "top 2 mF",
        "image 2", "restore 2", "ledger 8 maLie", "film 6 mbaLi", "sheet 5 aLx", "drop 1 a", "item 8 aLiv", "copy 8 aiaie"};

    private final Random chance;
    private final FurrowNames real = new FurrowNames();
    private final Model model = new Model();
    private final List<String> told = new ArrayList<>();
    private final Map<String, Integer> answers;
    /** One argument of so many is an edge; in some runs nearly each call has one. */
    private final int edgeEvery;
    private int made = 0;

    private RandomRunsTest(int run, Map<String, Integer> answers) {
        chance = new Random(run);
        edgeEvery = run % 5 == 4 ? 4 : 50;
        this.answers = answers;
    }

    public static void main(String[] args) throws ReflectiveOperationException {
        Map<String, Integer> answers = new TreeMap<>();
        int runs = args.length > 0 ? Integer.parseInt(args[0]) : RUNS;
        int first = args.length > 1 ? Integer.parseInt(args[1]) : 0;
        for (int run = first; run < first + runs; run++) {
            if (!new RandomRunsTest(run, answers).holds(run)) {
                System.exit(1);
            }
        }
        if (args.length > 2) {
            answers.forEach((k, v) -> System.out.println(k + ": " + v));
        }
        System.out.println("RandomRunsTest: " + runs + " runs of " + CALLS + " calls, all as the model has it");
    }

    /** So many Marches that the last one is near. */
    private boolean growsLate() throws ReflectiveOperationException {
        boolean same = readText();
        for (int i = 0; i < 245 && same; i++) {
            same = same("marches", 40);
        }
        return same;
    }

    private boolean holds(int run) throws ReflectiveOperationException {
        if (run % 50 == 7 && !growsLate()) {
            told.forEach(System.out::println);
            return false;
        }
        while (made < CALLS) {
            boolean same = chance.nextInt(made < 40 ? 12 : 120) == 0 ? readText() : call(PLAN[byWeight()]);
            if (!same) {
                System.out.println("run " + run + ":");
                told.forEach(System.out::println);
                return false;
            }
        }
        return true;
    }

    private int byWeight() {
        int all = 0;
        for (String p : PLAN) {
            all += Integer.parseInt(p.split(" ")[1]);
        }
        int left = chance.nextInt(all);
        for (int i = 0; i < PLAN.length; i++) {
            left -= Integer.parseInt(PLAN[i].split(" ")[1]);
            if (left < 0) {
                return i;
            }
        }
        return 0;
    }

    private boolean call(String plan) throws ReflectiveOperationException {
        String[] parts = plan.split(" ");
        String letters = parts.length > 2 ? parts[2] : "";
        Object[] values = new Object[letters.length()];
        for (int i = 0; i < values.length; i++) {
            values[i] = letters.charAt(i) == 'v' ? (Object) item() : (Object) argument(letters.charAt(i));
        }
        return same(parts[0], values);
    }

    private boolean same(String name, Object... values) throws ReflectiveOperationException {
        if (made >= CALLS) {
            return true;
        }
        made++;
        Class<?>[] types = new Class<?>[values.length];
        StringBuilder text = new StringBuilder(name).append('(');
        for (int i = 0; i < values.length; i++) {
            types[i] = values[i] instanceof Long ? long.class : int.class;
            text.append(i == 0 ? "" : ", ").append(values[i]);
        }
        int got = (Integer) method(FurrowNames.class, name, types).invoke(real, values);
        int due = (Integer) method(Model.class, name, types).invoke(model, values);
        text.append(") = ").append(got).append(got == due ? "" : ", the model has " + due);
        told.add(text.toString());
        answers.merge(name + (due < 0 ? " " + due : due == 0 ? " zero" : " more"), 1, Integer::sum);
        return got == due;
    }

    private static Method method(Class<?> of, String name, Class<?>[] types) throws NoSuchMethodException {
        return of.getMethod(name, types);
    }

    private boolean readText() throws ReflectiveOperationException {
        String text = text();
        boolean same = chance.nextInt(10) == 0 || same("parish");
        for (int i = 0; i < text.length() && same; i++) {
            same = same("type", (int) text.charAt(i));
        }
        return same && same("parish");
    }

    /** A parish, often with a letter too many, too few or another one, or with blanks. */
    private String text() {
        StringBuilder b = new StringBuilder();
        b.append(number()).append(';');
        int men = 1 + chance.nextInt(chance.nextInt(8) == 0 ? 7 : 6);
        for (int m = 0; m < men; m++) {
            b.append(m == 0 ? "" : ",").append("prohd".charAt(chance.nextInt(5))).append(chance.nextInt(10));
            b.append(1 + chance.nextInt(4));
        }
        int names = 1 + chance.nextInt(chance.nextInt(8) == 0 ? 7 : 6);
        for (int n = 0; n < names; n++) {
            b.append(n == 0 ? ';' : ',').append(number()).append('-').append(number());
        }
        int slips = chance.nextInt(3) == 0 ? 1 + chance.nextInt(2) : 0;
        for (int i = 0; i < slips && b.length() > 1; i++) {
            int at = chance.nextInt(b.length());
            char letter = "0123456789;,-prohd  x~".charAt(chance.nextInt(22));
            switch (chance.nextInt(4)) {
                case 0: b.insert(at, letter); break;
                case 1: b.setCharAt(at, letter); break;
                case 2: b.deleteCharAt(at); break;
                default: b.setLength(at);
            }
        }
        int blanks = chance.nextInt(3) == 0 ? chance.nextInt(6) : 0;
        for (int i = 0; i < blanks; i++) {
            b.insert(chance.nextInt(b.length() + 1), ' ');
        }
        return b.toString();
    }

    private String number() {
        int v = chance.nextInt(40) == 0 ? chance.nextInt(100) : chance.nextInt(21);
        return v < 10 && chance.nextInt(5) == 0 ? "0" + v : "" + v;
    }

    private long item() {
        long v = chance.nextInt(8) - 1;
        int shift = chance.nextInt(6) == 0 ? new int[] {8, 16, 32, 40}[chance.nextInt(4)] : 0;
        return shift == 0 ? v : v + ((long) chance.nextInt() << shift);
    }

    private int argument(char letter) {
        if (chance.nextInt(edgeEvery) == 0) {
            return EDGES[chance.nextInt(EDGES.length)];
        }
        switch (letter) {
            case 'k': return chance.nextInt(5);
            case 'h': return chance.nextInt(10);
            case 'o': return 1 + chance.nextInt(4);
            case 'w': case 's': return chance.nextInt(21);
            case 'm': return some(model.count(0));
            case 'n': return some(model.count(1));
            case 'l': return chance.nextInt(6) == 0 ? -4 : some(model.count(1));
            case 'p': return chance.nextInt(4) == 0 ? -4 : some(model.count(0));
            case 't': return chance.nextInt(30) == 0 ? chance.nextInt(200) : 32 + chance.nextInt(95);
            case 'q': return chance.nextInt(5) == 0 ? 1 + chance.nextInt(40) : 1 + chance.nextInt(3);
            case 'r': return chance.nextInt() & Integer.MAX_VALUE;
            case 'f': return chance.nextInt(4) == 0 ? chance.nextInt(61) : chance.nextInt(6);
            case 'F': return 1 + chance.nextInt(chance.nextInt(4) == 0 ? 60 : 9);
            case 'c': return chance.nextInt(4) - 1;
            case 'a': return chance.nextInt(4);
            case 'L': return chance.nextInt(5) == 0 ? chance.nextInt(4) : 2;
            case 'i': return chance.nextInt(chance.nextInt(4) == 0 ? 24 : 3);
            case 'e': return chance.nextInt(30) == 0 ? 0 : 1 + chance.nextInt(chance.nextInt(3) == 0 ? 8 : 2);
            case 'b': return 1 + chance.nextInt(chance.nextInt(3) == 0 ? 24 : 4);
            case 'x': return chance.nextInt(chance.nextInt(3) == 0 ? 5 : 25);
            default: return chance.nextInt(letter - '0' + 1);
        }
    }

    private int some(int many) {
        return many == 0 ? 0 : chance.nextInt(many);
    }
}
