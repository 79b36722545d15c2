import java.math.BigInteger;
import java.util.ArrayDeque;
import java.util.ArrayList;
import java.util.Arrays;
import java.util.Comparator;
import java.util.Deque;
import java.util.List;
import java.util.regex.Matcher;
import java.util.regex.Pattern;

/**
 * The document once more, in the slowest and plainest words, with the whole library at hand:
 * what RandomRunsTest holds the class against. It shares no way of working with the class.
 */
final class Model {
    static final int BAD = -1, NOT = -2, FULL = -3, NONE = -4, NULL = -11, CAST = -12, INDEX = -13, SIZE = -14;
    private static final Pattern NUMBER = Pattern.compile("[0-9][0-9]?");
    private static final String MAN = " *[prohd] *[0-9] *[1-4] *";
    private static final String NAME = " *[0-9][0-9]? *- *[0-9][0-9]? *";
    private static final Pattern PARISH =
        Pattern.compile(" *[0-9][0-9]? *;" + MAN + "(," + MAN + "){0,5};" + NAME + "(," + NAME + "){0,5}");

    /** A man; called is null for nothing. */
    private static final class Man {
        int kind, hand, oxen, credit;
        Integer called;

        Man same() {
            Man m = new Man();
            m.kind = kind;
            m.hand = hand;
            m.oxen = oxen;
            m.credit = credit;
            m.called = called;
            return m;
        }
    }

    private static final class World {
        List<Man> men = new ArrayList<>();
        List<int[]> names = new ArrayList<>();
        int stones = 6, march = 0;
        long draw = 1;
        Deque<World> past = new ArrayDeque<>();

        World same() {
            World w = new World();
            for (Man m : men) {
                w.men.add(m.same());
            }
            for (int[] n : names) {
                w.names.add(n.clone());
            }
            w.stones = stones;
            w.march = march;
            w.draw = draw;
            w.past = new ArrayDeque<>(past);
            return w;
        }
    }

    private World w = new World();
    private World image = null;
    private String tape = "";
    private final Object[] sheets = new Object[4];

    // ---- the rules

    private static int off(World w, int man, int stones) {
        Man m = w.men.get(man);
        int drink = m.kind != 4 ? 0 : w.march % 2 == 0 ? 5 : 3;
        return 10 - m.hand + stones / m.oxen + drink;
    }

    private static int value(World w, int man, int name) {
        int[] n = w.names.get(name);
        switch (w.men.get(man).kind) {
            case 0: return n[0] - n[1];
            case 1: return 2 * n[0] - n[1];
            case 3: return 2 * n[0] - n[1] + (man == name ? 9 : 0);
            default: return n[0] - 2 * n[1];
        }
    }

    private static List<Integer> line(World w, int stones, int[] more) {
        List<Integer> line = new ArrayList<>();
        for (int m = 0; m < w.men.size(); m++) {
            line.add(m);
        }
        line.sort(Comparator.comparingInt((Integer m) -> off(w, m, stones) + more[m]).thenComparingInt(m -> m));
        return line;
    }

    private static Integer[] choice(World w, int stones, int[] more) {
        Integer[] got = new Integer[w.men.size()];
        List<Integer> free = new ArrayList<>();
        for (int n = 0; n < w.names.size(); n++) {
            free.add(n);
        }
        for (int man : line(w, stones, more)) {
            got[man] = free.stream().max(Comparator.comparingInt((Integer n) -> value(w, man, n))
                .thenComparing(Comparator.reverseOrder())).orElse(null);
            free.remove(got[man]);
        }
        return got;
    }

    private static Integer[] choice(World w, int stones) {
        return choice(w, stones, new int[6]);
    }

    private static void march(World w, int stones) {
        Integer[] got = choice(w, stones);
        for (int m = 0; m < got.length; m++) {
            Man man = w.men.get(m);
            man.called = got[m];
            if (got[m] == null) {
                man.hand = Math.min(9, man.hand + 1);
            } else {
                man.credit += value(w, m, got[m]);
            }
        }
        for (int n = 0; n < w.names.size(); n++) {
            int worn = Arrays.asList(got).contains(n) ? 1 : 0;
            w.names.get(n)[worn] = Math.max(0, w.names.get(n)[worn] - 1);
        }
        w.march++;
    }

    private World ahead(int n) {
        World t = w.same();
        for (int i = 0; i < n; i++) {
            march(t, t.stones);
        }
        return t;
    }

    private void keep() {
        World before = w.same();
        before.past.clear();
        w.past.addLast(before);
        if (w.past.size() > 8) {
            w.past.removeFirst();
        }
    }

    private boolean man(int man) {
        return man >= 0 && man < w.men.size();
    }

    private boolean name(int name) {
        return name >= 0 && name < w.names.size();
    }

    private static boolean in(int v, int least, int most) {
        return least <= v && v <= most;
    }

    private static int orNone(Integer v) {
        return v == null ? NONE : v;
    }

    private static int set(List<Integer> called) {
        int set = 0;
        for (int m = 0; m < called.size(); m++) {
            set += called.get(m) == null ? 0 : 1 << m;
        }
        return set;
    }

    private List<Integer> called() {
        List<Integer> called = new ArrayList<>();
        for (Man m : w.men) {
            called.add(m.called);
        }
        return called;
    }

    // ---- the calls

    public int man(int kind, int hand, int oxen) {
        if (!in(kind, 0, 4) || !in(hand, 0, 9) || !in(oxen, 1, 4)) {
            return BAD;
        }
        if (w.men.size() == 6) {
            return FULL;
        }
        Man m = new Man();
        m.kind = kind;
        m.hand = hand;
        m.oxen = oxen;
        w.men.add(m);
        w.past.clear();
        return w.men.size() - 1;
    }

    public int name(int worth, int debt) {
        if (!in(worth, 0, 20) || !in(debt, 0, 20)) {
            return BAD;
        }
        if (w.names.size() == 6) {
            return FULL;
        }
        w.names.add(new int[] {worth, debt});
        w.past.clear();
        return w.names.size() - 1;
    }

    public int of(int man, int what) {
        if (!man(man) || !in(what, 0, 6)) {
            return BAD;
        }
        Man m = w.men.get(man);
        int[] all = {m.kind, m.hand, m.oxen, m.credit + 10000, orNone(m.called), off(w, man, w.stones),
            line(w, w.stones, new int[6]).indexOf(man)};
        return all[what];
    }

    public int named(int name, int what) {
        if (!name(name) || !in(what, 0, 2)) {
            return BAD;
        }
        if (what < 2) {
            return w.names.get(name)[what];
        }
        int who = called().indexOf(name);
        return who < 0 ? NONE : who;
    }

    public int values(int man, int name) {
        return man(man) && name(name) ? value(w, man, name) + 100 : BAD;
    }

    public int stones(int v) {
        if (!in(v, 0, 20)) {
            return BAD;
        }
        int were = w.stones;
        w.stones = v;
        return were;
    }

    public int type(int letter) {
        if (!in(letter, 32, 126)) {
            return BAD;
        }
        if (tape.length() == 80) {
            return FULL;
        }
        tape += (char) letter;
        return tape.length();
    }

    /** The place of the fault, or -1: by the longest beginning that a parish can begin with. */
    private static int faultOf(String text) {
        int good = 0;
        while (good < text.length() && begins(text.substring(0, good + 1))) {
            good++;
        }
        Matcher numbers = NUMBER.matcher(text);
        int from = 0;
        while (numbers.find(from) && numbers.end() <= good) {
            boolean ofMan = text.substring(0, numbers.start()).replace(" ", "").matches(".*[prohd][0-9]?");
            if (!ofMan && Integer.parseInt(numbers.group()) > 20) {
                return numbers.start();
            }
            from = numbers.end();
        }
        return good == text.length() && PARISH.matcher(text).matches() ? -1 : good;
    }

    private static boolean begins(String text) {
        Matcher m = PARISH.matcher(text);
        return m.matches() || m.hitEnd();
    }

    public int parish() {
        String text = tape;
        tape = "";
        int fault = faultOf(text);
        if (fault >= 0) {
            return -20 - fault;
        }
        String[] parts = text.replace(" ", "").split(";");
        World made = new World();
        made.draw = w.draw;
        made.stones = Integer.parseInt(parts[0]);
        for (String one : parts[1].split(",")) {
            Man m = new Man();
            m.kind = "prohd".indexOf(one.charAt(0));
            m.hand = one.charAt(1) - '0';
            m.oxen = one.charAt(2) - '0';
            made.men.add(m);
        }
        for (String one : parts[2].split(",")) {
            String[] two = one.split("-");
            made.names.add(new int[] {Integer.parseInt(two[0]), Integer.parseInt(two[1])});
        }
        w = made;
        return w.men.size();
    }

    public int count(int what) {
        switch (what) {
            case 0: return w.men.size();
            case 1: return w.names.size();
            case 2: return w.march;
            case 3: return w.stones;
            case 4: return set(called());
            case 5: return w.names.stream().mapToInt(n -> n[0]).sum();
            case 6: return w.names.stream().mapToInt(n -> n[1]).sum();
            case 7: return set(Arrays.asList(choice(w, w.stones)));
            case 8: return w.past.size();
            default: return BAD;
        }
    }

    public int marches(int n) {
        if (!in(n, 1, 40)) {
            return BAD;
        }
        if (w.march + n > 9999) {
            return FULL;
        }
        for (int i = 0; i < n; i++) {
            keep();
            march(w, w.stones);
        }
        return set(called());
    }

    public int train(int man) {
        if (!man(man)) {
            return BAD;
        }
        if (w.men.get(man).hand == 9) {
            return NOT;
        }
        keep();
        return ++w.men.get(man).hand;
    }

    public int hire(int man, int n) {
        if (!man(man) || !in(n, 1, 4)) {
            return BAD;
        }
        keep();
        int were = w.men.get(man).oxen;
        w.men.get(man).oxen = n;
        return were;
    }

    public int swap(int man, int other) {
        if (!man(man) || !man(other) || man == other) {
            return BAD;
        }
        Man one = w.men.get(man);
        Man two = w.men.get(other);
        if (one.called == null || two.called == null) {
            return NOT;
        }
        keep();
        Integer was = one.called;
        one.called = two.called;
        two.called = was;
        return one.called;
    }

    public int drift(int n) {
        if (!in(n, 1, 40)) {
            return BAD;
        }
        if (w.march + n > 9999) {
            return FULL;
        }
        int nameless = 0;
        for (int i = 0; i < n; i++) {
            keep();
            w.draw = BigInteger.valueOf(w.draw).multiply(BigInteger.valueOf(1103515245)).add(BigInteger.valueOf(12345))
                .mod(BigInteger.ONE.shiftLeft(31)).longValue();
            march(w, (int) (w.draw / 65536 % 21));
            for (Man m : w.men) {
                nameless += m.called == null ? 1 : 0;
            }
        }
        return nameless;
    }

    public int undo() {
        if (w.past.isEmpty()) {
            return NONE;
        }
        World before = w.past.removeLast().same();
        before.stones = w.stones;
        before.past = w.past;
        w = before;
        return w.past.size();
    }

    public int seed(int v) {
        if (v < 0) {
            return BAD;
        }
        long was = w.draw;
        w.draw = v;
        return (int) was;
    }

    public int ahead(int man, int n, int what) {
        if (!man(man) || !in(n, 0, 60) || !in(what, 0, 2)) {
            return BAD;
        }
        Man m = ahead(n).men.get(man);
        return what == 0 ? orNone(m.called) : what == 1 ? m.credit + 10000 : m.hand;
    }

    public int nameAhead(int name, int n, int what) {
        if (!name(name) || !in(n, 0, 60) || !in(what, 0, 1)) {
            return BAD;
        }
        return ahead(n).names.get(name)[what];
    }

    public int needs(int man, int name) {
        if (!man(man) || !name(name)) {
            return BAD;
        }
        for (int more = 0; w.men.get(man).hand + more <= 9; more++) {
            World t = w.same();
            t.men.get(man).hand += more;
            march(t, t.stones);
            Integer got = t.men.get(man).called;
            if (got != null && value(w, man, got) >= value(w, man, name)) {
                return more;
            }
        }
        return NONE;
    }

    public int field(int man) {
        if (!man(man)) {
            return BAD;
        }
        int[] value = new int[21];
        int best = 0;
        for (int s = 0; s <= 20; s++) {
            Integer got = choice(w, s)[man];
            value[s] = got == null ? -9999 : value(w, man, got);
            best = value[s] > value[best] ? s : best;
        }
        return best;
    }

    private int bestSum;
    private List<Integer> bestParting;

    /** Every parting there is, in order; the first of the best stays. */
    private void part(List<Integer> sofar, int sum) {
        if (sofar.size() == w.men.size()) {
            if (sum > bestSum) {
                bestSum = sum;
                bestParting = new ArrayList<>(sofar);
            }
            return;
        }
        for (int n = 0; n <= w.names.size(); n++) {
            Integer his = n == w.names.size() ? null : (Integer) n;
            if (his == null || !sofar.contains(his)) {
                int more = his == null ? 0 : value(w, sofar.size(), his) + 100;
                sofar.add(his);
                part(sofar, sum + more);
                sofar.remove(sofar.size() - 1);
            }
        }
    }

    public int parting(int man) {
        if (man != NONE && !man(man)) {
            return BAD;
        }
        bestSum = -1;
        part(new ArrayList<>(), 0);
        return man == NONE ? bestSum : orNone(bestParting.get(man));
    }

    public int change(int k) {
        if (k < -1) {
            return BAD;
        }
        List<Integer> pairs = new ArrayList<>();
        for (int two = 0; two < 60; two++) {
            int i = two / 10;
            int j = two % 10;
            if (i < j && man(j) && w.men.get(i).called != null && w.men.get(j).called != null) {
                int a = w.men.get(i).called;
                int b = w.men.get(j).called;
                if (value(w, i, b) > value(w, i, a) && value(w, j, a) > value(w, j, b)) {
                    pairs.add(two);
                }
            }
        }
        return k == -1 ? pairs.size() : k < pairs.size() ? pairs.get(k) : NONE;
    }

    public int luck(int man, int name, int what) {
        if (!man(man) || !name(name) && name != NONE || !in(what, 0, 1)) {
            return BAD;
        }
        int all = (int) Math.round(Math.pow(3, w.men.size()));
        int ways = 0;
        for (int code = 0; code < all; code++) {
            int[] more = new int[6];
            for (int m = 0, c = code; m < w.men.size(); m++, c /= 3) {
                more[m] = c % 3;
            }
            ways += orNone(choice(w, w.stones, more)[man]) == name ? 1 : 0;
        }
        int common = BigInteger.valueOf(all).gcd(BigInteger.valueOf(ways)).intValue();
        return (what == 0 ? ways : all) / common;
    }

    public int top(int man, int n) {
        if (!man(man) || !in(n, 1, 60)) {
            return BAD;
        }
        int best = 1;
        for (int i = 2; i <= n; i++) {
            if (ahead(i).men.get(man).credit > ahead(best).men.get(man).credit) {
                best = i;
            }
        }
        return best;
    }

    public int image() {
        image = w.same();
        return 1;
    }

    public int restore() {
        if (image == null) {
            return NONE;
        }
        w = image.same();
        return 1;
    }

    // ---- sheets: true rows of the machine, whose own exceptions are the answers

    private static final Class<?>[] LANES = {byte[].class, short[].class, int[].class, long[].class};

    private static long get(Object row, int i) {
        if (row instanceof byte[] b) {
            return b[i];
        }
        if (row instanceof short[] s) {
            return s[i];
        }
        return row instanceof int[] n ? n[i] : ((long[]) row)[i];
    }

    private static void put(Object row, int i, long v) {
        if (row instanceof byte[] b) {
            b[i] = (byte) v;
        } else if (row instanceof short[] s) {
            s[i] = (short) v;
        } else if (row instanceof int[] n) {
            n[i] = (int) v;
        } else {
            ((long[]) row)[i] = v;
        }
    }

    private interface Work {
        int go();
    }

    private static int machine(Work work) {
        try {
            return work.go();
        } catch (NullPointerException e) {
            return NULL;
        } catch (ClassCastException | ArrayStoreException e) {
            return CAST;
        } catch (IndexOutOfBoundsException e) {
            return INDEX;
        } catch (NegativeArraySizeException e) {
            return SIZE;
        }
    }

    private Object row(int sheet, int lane) {
        if (sheets[sheet] == null) {
            throw new NullPointerException();
        }
        return LANES[lane].cast(sheets[sheet]);
    }

    public int ledger(int man, int sheet, int lane, int i, int n) {
        if (!man(man) || !in(sheet, 0, 3) || !in(lane, 0, 3) || !in(n, 1, 8)) {
            return BAD;
        }
        return machine(() -> {
            Object row = row(sheet, lane);
            long[] told = new long[n];
            for (int k = 0; k < n; k++) {
                told[k] = get(row, Math.addExact(i, k));
            }
            int set = 0;
            for (int kind = 0; kind < 5; kind++) {
                World t = w.same();
                t.men.get(man).kind = kind;
                boolean so = true;
                for (long one : told) {
                    march(t, t.stones);
                    Integer got = t.men.get(man).called;
                    so &= one == (got == null ? -1 : got);
                }
                set += so ? 1 << kind : 0;
            }
            return set;
        });
    }

    public int film(int man, int n, int sheet, int lane, int i) {
        if (!man(man) || !in(sheet, 0, 3) || !in(lane, 0, 3) || !in(n, 1, 24)) {
            return BAD;
        }
        return machine(() -> {
            Object row = row(sheet, lane);
            get(row, i);
            get(row, (int) Math.min(Integer.MAX_VALUE, (long) i + n - 1));
            for (int k = 0; k < n; k++) {
                Integer got = ahead(k + 1).men.get(man).called;
                put(row, i + k, got == null ? -1 : got);
            }
            return n;
        });
    }

    public int sheet(int sheet, int lane, int n) {
        if (!in(sheet, 0, 3) || !in(lane, 0, 3) || n > 24) {
            return BAD;
        }
        return machine(() -> {
            sheets[sheet] = lane == 0 ? new byte[n] : lane == 1 ? new short[n] : lane == 2 ? (Object) new int[n] : new long[n];
            return n;
        });
    }

    public int drop(int sheet) {
        if (!in(sheet, 0, 3)) {
            return BAD;
        }
        if (sheets[sheet] == null) {
            return NULL;
        }
        int had = java.lang.reflect.Array.getLength(sheets[sheet]);
        sheets[sheet] = null;
        return had;
    }

    public int item(int sheet, int lane, int i, long v) {
        if (!in(sheet, 0, 3) || !in(lane, 0, 3)) {
            return BAD;
        }
        return machine(() -> {
            put(row(sheet, lane), i, v);
            return 1;
        });
    }

    public int copy(int from, int i, int to, int j, int n) {
        if (!in(from, 0, 3) || !in(to, 0, 3)) {
            return BAD;
        }
        return machine(() -> {
            System.arraycopy(sheets[from], i, sheets[to], j, n);
            return n;
        });
    }
}
