import java.util.Arrays;

/** Surnames by the furrow: a parish in which family names are ploughed for each March. */
public final class FurrowNames {
    public static final int BAD = -1, NOT = -2, FULL = -3, NONE = -4, NULL = -11, CAST = -12, INDEX = -13, SIZE = -14;

    private static final int MOST = 6;
    private static final int NOTHING = -1;
    private static final int TOP_HAND = 9;
    private static final int TOP_OXEN = 4;
    private static final int TOP_STONES = 20;
    private static final int TOP_WORTH = 20;
    private static final int LAST_KIND = 4;
    private static final int LAST_MARCH = 9999;
    private static final int LAST_AHEAD = 60;
    private static final int MARCHES_A_CALL = 40;
    private static final int CREDIT_SHIFT = 10000;
    private static final int VALUE_SHIFT = 100;
    private static final int FAULT_SHIFT = -20;
    private static final int LOWEST_31 = 0x7fffffff;
    private static final int LESS_THAN_ANY = -1000000;
    private static final int SHEETS = 4;
    private static final int LAST_LANE = 3;
    private static final int MOST_ITEMS = 24;
    private static final int MOST_IN_LEDGER = 8;

    private final Choice choice = new Choice();
    private final Luck odds = new Luck(choice);
    private final Parish now = new Parish();
    private final Past past = new Past();
    private final Parish kept = new Parish();
    private final Past keptPast = new Past();
    private boolean isKept = false;
    // What is foretold, and a text that is not yet known to be a parish, is tried here.
    private final Parish trial = new Parish();
    private final Tape tape = new Tape();
    private final Sheet[] sheets = new Sheet[SHEETS];
    // Row m: the most that men m and later can have together, by the set of names that are gone.
    private final int[][] together = new int[MOST + 1][1 << MOST];

    public FurrowNames() {
        for (int i = 0; i < SHEETS; i++) {
            sheets[i] = new Sheet();
        }
    }

    // ---- 1 men, names

    public int man(int kind, int hand, int oxen) {
        if (outside(kind, 0, LAST_KIND) || outside(hand, 0, TOP_HAND) || outside(oxen, 1, TOP_OXEN)) {
            return BAD;
        }
        if (now.men >= MOST) {
            return FULL;
        }
        past.forget();
        now.addMan(kind, hand, oxen);
        return now.men - 1;
    }

    public int name(int worth, int debt) {
        if (outside(worth, 0, TOP_WORTH) || outside(debt, 0, TOP_WORTH)) {
            return BAD;
        }
        if (now.names >= MOST) {
            return FULL;
        }
        past.forget();
        now.addName(worth, debt);
        return now.names - 1;
    }

    public int of(int man, int what) {
        if (noMan(man)) {
            return BAD;
        }
        switch (what) {
            case 0: return now.kind[man];
            case 1: return now.hand[man];
            case 2: return now.oxen[man];
            case 3: return now.credit[man] + CREDIT_SHIFT;
            case 4: return orNone(now.called[man]);
            case 5: return choice.offOf(now, man, now.stones);
            case 6: return choice.placeOf(now, man);
            default: return BAD;
        }
    }

    public int named(int name, int what) {
        if (noName(name)) {
            return BAD;
        }
        switch (what) {
            case 0: return now.worth[name];
            case 1: return now.debt[name];
            case 2: return orNone(now.whoIsCalled(name));
            default: return BAD;
        }
    }

    public int values(int man, int name) {
        if (noMan(man) || noName(name)) {
            return BAD;
        }
        return choice.esteem(now, man, name) + VALUE_SHIFT;
    }

    public int stones(int v) {
        if (outside(v, 0, TOP_STONES)) {
            return BAD;
        }
        int were = now.stones;
        now.stones = v;
        return were;
    }

    public int type(int letter) {
        if (outside(letter, 32, 126)) {
            return BAD;
        }
        return tape.takes((char) letter) ? tape.length : FULL;
    }

    public int parish() {
        boolean isParish = tape.reads(trial);
        tape.length = 0;
        if (!isParish) {
            return FAULT_SHIFT - tape.place;
        }
        trial.draw = now.draw;
        now.become(trial);
        past.forget();
        return now.men;
    }

    public int count(int what) {
        switch (what) {
            case 0: return now.men;
            case 1: return now.names;
            case 2: return now.march;
            case 3: return now.stones;
            case 4: return setOfNamed(now.called);
            case 5: return sum(now.worth);
            case 6: return sum(now.debt);
            case 7:
                choice.make(now, now.stones);
                return setOfNamed(choice.chosen);
            case 8: return past.size;
            default: return BAD;
        }
    }

    // ---- what is done

    public int marches(int n) {
        if (outside(n, 1, MARCHES_A_CALL)) {
            return BAD;
        }
        if (now.march + n > LAST_MARCH) {
            return FULL;
        }
        for (int i = 0; i < n; i++) {
            past.keep(now);
            choice.hold(now, now.stones);
        }
        return setOfNamed(now.called);
    }

    public int train(int man) {
        if (noMan(man)) {
            return BAD;
        }
        if (now.hand[man] >= TOP_HAND) {
            return NOT;
        }
        past.keep(now);
        now.hand[man]++;
        return now.hand[man];
    }

    public int hire(int man, int n) {
        if (noMan(man) || outside(n, 1, TOP_OXEN)) {
            return BAD;
        }
        past.keep(now);
        int were = now.oxen[man];
        now.oxen[man] = n;
        return were;
    }

    public int swap(int man, int other) {
        if (noMan(man) || noMan(other) || man == other) {
            return BAD;
        }
        int his = now.called[man];
        int others = now.called[other];
        if (his == NOTHING || others == NOTHING) {
            return NOT;
        }
        past.keep(now);
        now.called[man] = others;
        now.called[other] = his;
        return others;
    }

    public int drift(int n) {
        if (outside(n, 1, MARCHES_A_CALL)) {
            return BAD;
        }
        if (now.march + n > LAST_MARCH) {
            return FULL;
        }
        int nameless = 0;
        for (int i = 0; i < n; i++) {
            // Kept ahead of the draw too: a March that is undone had no draw.
            past.keep(now);
            choice.hold(now, now.drawStones());
            nameless += now.men - Integer.bitCount(setOfNamed(now.called));
        }
        return nameless;
    }

    public int undo() {
        Parish before = past.latest();
        if (before == null) {
            return NONE;
        }
        int stonesStay = now.stones;
        now.become(before);
        now.stones = stonesStay;
        past.dropLatest();
        return past.size;
    }

    public int seed(int v) {
        if (v < 0) {
            return BAD;
        }
        int was = now.draw;
        now.draw = v;
        return was;
    }

    // ---- 2 foretold

    public int ahead(int man, int n, int what) {
        if (noMan(man) || outside(n, 0, LAST_AHEAD) || outside(what, 0, 2)) {
            return BAD;
        }
        foretell(n);
        switch (what) {
            case 0: return orNone(trial.called[man]);
            case 1: return trial.credit[man] + CREDIT_SHIFT;
            default: return trial.hand[man];
        }
    }

    public int nameAhead(int name, int n, int what) {
        if (noName(name) || outside(n, 0, LAST_AHEAD) || outside(what, 0, 1)) {
            return BAD;
        }
        foretell(n);
        return what == 0 ? trial.worth[name] : trial.debt[name];
    }

    public int needs(int man, int name) {
        if (noMan(man) || noName(name)) {
            return BAD;
        }
        int wanted = choice.esteem(now, man, name);
        trial.become(now);
        for (int hand = now.hand[man]; hand <= TOP_HAND; hand++) {
            trial.hand[man] = hand;
            choice.make(trial, trial.stones);
            int got = choice.chosen[man];
            if (got != NOTHING && choice.esteem(trial, man, got) >= wanted) {
                return hand - now.hand[man];
            }
        }
        return NONE;
    }

    public int field(int man) {
        if (noMan(man)) {
            return BAD;
        }
        int best = 0;
        int most = LESS_THAN_ANY;
        for (int stones = 0; stones <= TOP_STONES; stones++) {
            choice.make(now, stones);
            int got = choice.chosen[man];
            if (got != NOTHING && choice.esteem(now, man, got) > most) {
                most = choice.esteem(now, man, got);
                best = stones;
            }
        }
        return best;
    }

    public int parting(int man) {
        if (man != NONE && noMan(man)) {
            return BAD;
        }
        weighPartings();
        if (man == NONE) {
            return together[0][0];
        }
        int gone = 0;
        int his = NOTHING;
        for (int m = 0; m <= man; m++) {
            his = firstBest(m, gone);
            if (his != NOTHING) {
                gone |= 1 << his;
            }
        }
        return orNone(his);
    }

    public int change(int k) {
        if (k < -1) {
            return BAD;
        }
        int found = 0;
        for (int i = 0; i < now.men; i++) {
            for (int j = i + 1; j < now.men; j++) {
                if (wouldChange(i, j) && wouldChange(j, i)) {
                    if (found == k) {
                        return 10 * i + j;
                    }
                    found++;
                }
            }
        }
        return k == -1 ? found : NONE;
    }

    public int luck(int man, int name, int what) {
        if (noMan(man) || name != NONE && noName(name) || outside(what, 0, 1)) {
            return BAD;
        }
        int ways = odds.waysOf(now, man, name == NONE ? NOTHING : name);
        int all = odds.all(now.men);
        // All are a power of 3: nothing else can stand above and below.
        for (int m = 0; m < now.men && ways % 3 == 0; m++) {
            ways /= 3;
            all /= 3;
        }
        return what == 0 ? ways : all;
    }

    public int top(int man, int n) {
        if (noMan(man) || outside(n, 1, LAST_AHEAD)) {
            return BAD;
        }
        trial.become(now);
        int best = 0;
        int most = LESS_THAN_ANY;
        for (int i = 1; i <= n; i++) {
            choice.hold(trial, trial.stones);
            if (trial.credit[man] > most) {
                most = trial.credit[man];
                best = i;
            }
        }
        return best;
    }

    public int image() {
        kept.become(now);
        keptPast.become(past);
        isKept = true;
        return 1;
    }

    public int restore() {
        if (!isKept) {
            return NONE;
        }
        now.become(kept);
        past.become(keptPast);
        return 1;
    }

    // ---- 3 sheets

    public int ledger(int man, int sheet, int lane, int i, int n) {
        if (noMan(man) || outside(n, 1, MOST_IN_LEDGER)) {
            return BAD;
        }
        int wrong = wrongWith(sheet, lane, i, n);
        if (wrong != 0) {
            return wrong;
        }
        int set = 0;
        for (int kind = 0; kind <= LAST_KIND; kind++) {
            if (isCalledSo(man, kind, sheets[sheet].items, i, n)) {
                set |= 1 << kind;
            }
        }
        return set;
    }

    public int film(int man, int n, int sheet, int lane, int i) {
        if (noMan(man) || outside(n, 1, MOST_ITEMS)) {
            return BAD;
        }
        int wrong = wrongWith(sheet, lane, i, n);
        if (wrong != 0) {
            return wrong;
        }
        trial.become(now);
        for (int k = 0; k < n; k++) {
            choice.hold(trial, trial.stones);
            sheets[sheet].put(i + k, trial.called[man]);
        }
        return n;
    }

    public int sheet(int sheet, int lane, int n) {
        if (outside(sheet, 0, SHEETS - 1) || outside(lane, 0, LAST_LANE) || n > MOST_ITEMS) {
            return BAD;
        }
        if (n < 0) {
            return SIZE;
        }
        sheets[sheet].renew(lane, n);
        return n;
    }

    public int drop(int sheet) {
        if (outside(sheet, 0, SHEETS - 1)) {
            return BAD;
        }
        if (sheets[sheet].isMissing) {
            return NULL;
        }
        sheets[sheet].isMissing = true;
        return sheets[sheet].length;
    }

    public int item(int sheet, int lane, int i, long v) {
        int wrong = wrongWith(sheet, lane, i, 1);
        if (wrong != 0) {
            return wrong;
        }
        sheets[sheet].put(i, v);
        return 1;
    }

    public int copy(int from, int i, int to, int j, int n) {
        if (outside(from, 0, SHEETS - 1) || outside(to, 0, SHEETS - 1)) {
            return BAD;
        }
        Sheet source = sheets[from];
        Sheet target = sheets[to];
        if (source.isMissing || target.isMissing) {
            return NULL;
        }
        if (source.lane != target.lane) {
            return CAST;
        }
        if (!source.has(i, n) || !target.has(j, n)) {
            return INDEX;
        }
        System.arraycopy(source.items, i, target.items, j, n);
        return n;
    }

    // ---- help for the calls

    private static boolean outside(int v, int least, int most) {
        return v < least || v > most;
    }

    private boolean noMan(int man) {
        return outside(man, 0, now.men - 1);
    }

    private boolean noName(int name) {
        return outside(name, 0, now.names - 1);
    }

    private static int orNone(int number) {
        return number == NOTHING ? NONE : number;
    }

    /** The set of men who have a name, by what each man has. */
    private int setOfNamed(int[] has) {
        int set = 0;
        for (int m = 0; m < now.men; m++) {
            if (has[m] != NOTHING) {
                set |= 1 << m;
            }
        }
        return set;
    }

    private int sum(int[] byName) {
        int all = 0;
        for (int i = 0; i < now.names; i++) {
            all += byName[i];
        }
        return all;
    }

    private void foretell(int n) {
        trial.become(now);
        for (int i = 0; i < n; i++) {
            choice.hold(trial, trial.stones);
        }
    }

    private void weighPartings() {
        int sets = 1 << now.names;
        Arrays.fill(together[now.men], 0);
        for (int m = now.men - 1; m >= 0; m--) {
            int[] later = together[m + 1];
            int[] best = together[m];
            System.arraycopy(later, 0, best, 0, sets);
            for (int i = 0; i < now.names; i++) {
                int worth = choice.esteem(now, m, i) + VALUE_SHIFT;
                for (int gone = 0; gone < sets; gone++) {
                    if ((gone >> i & 1) == 0) {
                        best[gone] = Math.max(best[gone], worth + later[gone | 1 << i]);
                    }
                }
            }
        }
    }

    /** The first name by which a man and all behind him still have the most together. */
    private int firstBest(int man, int gone) {
        for (int i = 0; i < now.names; i++) {
            if ((gone >> i & 1) == 0) {
                int worth = choice.esteem(now, man, i) + VALUE_SHIFT;
                if (worth + together[man + 1][gone | 1 << i] == together[man][gone]) {
                    return i;
                }
            }
        }
        return NOTHING;
    }

    private boolean wouldChange(int man, int other) {
        int his = now.called[man];
        int others = now.called[other];
        if (his == NOTHING || others == NOTHING) {
            return false;
        }
        return choice.esteem(now, man, others) > choice.esteem(now, man, his);
    }

    /** What a call that takes n items of a sheet from i on is refused with; 0: nothing. */
    private int wrongWith(int sheet, int lane, int i, int n) {
        if (outside(sheet, 0, SHEETS - 1) || outside(lane, 0, LAST_LANE)) {
            return BAD;
        }
        if (sheets[sheet].isMissing) {
            return NULL;
        }
        if (sheets[sheet].lane != lane) {
            return CAST;
        }
        return sheets[sheet].has(i, n) ? 0 : INDEX;
    }

    private boolean isCalledSo(int man, int kind, long[] row, int i, int n) {
        trial.become(now);
        trial.kind[man] = kind;
        for (int k = 0; k < n; k++) {
            choice.hold(trial, trial.stones);
            if (trial.called[man] != row[i + k]) {
                return false;
            }
        }
        return true;
    }

    /** The plain kind of ploughman; the others stand below it. */
    static class Plain {
        int furrow(int hand, int oxen, int stones, int march) {
            // No ox is no man of any parish; the test only keeps the division safe.
            return 10 - hand + (oxen < 1 ? stones : stones / oxen);
        }

        int worthOf(int worth, int debt, boolean isHisNumber) {
            return worth - debt;
        }
    }

    static class Proud extends Plain {
        int worthOf(int worth, int debt, boolean isHisNumber) {
            return 2 * worth - debt;
        }
    }

    static class Poor extends Plain {
        int worthOf(int worth, int debt, boolean isHisNumber) {
            return worth - 2 * debt;
        }
    }

    static final class Heir extends Proud {
        int worthOf(int worth, int debt, boolean isHisNumber) {
            return super.worthOf(worth, debt, isHisNumber) + (isHisNumber ? 9 : 0);
        }
    }

    static final class Drinker extends Poor {
        int furrow(int hand, int oxen, int stones, int march) {
            return super.furrow(hand, oxen, stones, march) + (march % 2 == 0 ? 5 : 3);
        }
    }

    /** The men, the names and all that is told of them at one time. */
    static final class Parish {
        int men = 0;
        int names = 0;
        int stones = 6;
        int march = 0;
        int draw = 1;
        final int[] kind = new int[MOST];
        final int[] hand = new int[MOST];
        final int[] oxen = new int[MOST];
        final int[] credit = new int[MOST];
        final int[] called = new int[MOST];
        final int[] worth = new int[MOST];
        final int[] debt = new int[MOST];

        void become(Parish other) {
            men = other.men;
            names = other.names;
            stones = other.stones;
            march = other.march;
            draw = other.draw;
            System.arraycopy(other.kind, 0, kind, 0, MOST);
            System.arraycopy(other.hand, 0, hand, 0, MOST);
            System.arraycopy(other.oxen, 0, oxen, 0, MOST);
            System.arraycopy(other.credit, 0, credit, 0, MOST);
            System.arraycopy(other.called, 0, called, 0, MOST);
            System.arraycopy(other.worth, 0, worth, 0, MOST);
            System.arraycopy(other.debt, 0, debt, 0, MOST);
        }

        void empty() {
            men = 0;
            names = 0;
            march = 0;
        }

        /** Only where there are fewer men than may be. */
        void addMan(int itsKind, int itsHand, int itsOxen) {
            kind[men] = itsKind;
            hand[men] = itsHand;
            oxen[men] = itsOxen;
            credit[men] = 0;
            called[men] = NOTHING;
            men++;
        }

        /** Only where there are fewer names than may be. */
        void addName(int itsWorth, int itsDebt) {
            worth[names] = itsWorth;
            debt[names] = itsDebt;
            names++;
        }

        int whoIsCalled(int itsName) {
            for (int m = 0; m < men; m++) {
                if (called[m] == itsName) {
                    return m;
                }
            }
            return NOTHING;
        }

        /** The next draw: the stones of one March. */
        int drawStones() {
            draw = (draw * 1103515245 + 12345) & LOWEST_31;
            return draw / 65536 % (TOP_STONES + 1);
        }
    }

    /** The line, the choice and the March of any parish; what it finds stands until it is asked again. */
    static final class Choice {
        private final Plain[] kinds = {new Plain(), new Proud(), new Poor(), new Heir(), new Drinker()};
        private final int[] off = new int[MOST];
        private final int[] line = new int[MOST];
        /** By man: the name that he took, or NOTHING. */
        final int[] chosen = new int[MOST];

        int offOf(Parish p, int man, int stones) {
            return kinds[p.kind[man]].furrow(p.hand[man], p.oxen[man], stones, p.march);
        }

        int esteem(Parish p, int man, int itsName) {
            return kinds[p.kind[man]].worthOf(p.worth[itsName], p.debt[itsName], man == itsName);
        }

        int placeOf(Parish p, int man) {
            lineUp(p, p.stones);
            int place = 0;
            for (int i = 0; i < p.men; i++) {
                if (line[i] == man) {
                    place = i;
                }
            }
            return place;
        }

        private void lineUp(Parish p, int stones) {
            for (int m = 0; m < p.men; m++) {
                off[m] = offOf(p, m, stones);
                int place = m;
                while (place > 0 && off[line[place - 1]] > off[m]) {
                    line[place] = line[place - 1];
                    place--;
                }
                line[place] = m;
            }
        }

        /** What a man takes when a set of names is gone, or NOTHING. */
        int wish(Parish p, int man, int gone) {
            int best = NOTHING;
            int most = 0;
            for (int i = 0; i < p.names; i++) {
                if ((gone >> i & 1) == 0) {
                    int value = esteem(p, man, i);
                    if (best == NOTHING || value > most) {
                        best = i;
                        most = value;
                    }
                }
            }
            return best;
        }

        /** Makes the choice; answers the set of names that are taken. */
        int make(Parish p, int stones) {
            lineUp(p, stones);
            int taken = 0;
            for (int i = 0; i < p.men; i++) {
                int man = line[i];
                int got = wish(p, man, taken);
                chosen[man] = got;
                if (got != NOTHING) {
                    taken |= 1 << got;
                }
            }
            return taken;
        }

        /** One March. */
        void hold(Parish p, int stones) {
            int taken = make(p, stones);
            for (int m = 0; m < p.men; m++) {
                int got = chosen[m];
                p.called[m] = got;
                if (got != NOTHING) {
                    p.credit[m] += esteem(p, m, got);
                } else if (p.hand[m] < TOP_HAND) {
                    p.hand[m]++;
                }
            }
            for (int i = 0; i < p.names; i++) {
                if ((taken >> i & 1) != 0) {
                    p.debt[i] = Math.max(0, p.debt[i] - 1);
                } else {
                    p.worth[i] = Math.max(0, p.worth[i] - 1);
                }
            }
            p.march++;
        }
    }

    /** The odds of one March in which each furrow is up to 2 more off. */
    static final class Luck {
        private static final int WAYS = 3;
        // 10 less no hand, 20 stones by one ox, a drinker's 5, and 2 by luck.
        private static final int FURTHEST = 37;
        private final Choice choice;
        // Every furrow that may be, as the line would have it: whose, and how many of his are left, with it.
        private final int[] whose = new int[MOST * WAYS];
        private final int[] left = new int[MOST * WAYS];
        private int furrows = 0;

        Luck(Choice choice) {
            this.choice = choice;
        }

        int all(int men) {
            int ways = 1;
            for (int m = 0; m < men; m++) {
                ways *= WAYS;
            }
            return ways;
        }

        /** In how many of all ways a man is called by a name (NOTHING: by none). */
        int waysOf(Parish p, int man, int itsName) {
            furrows = 0;
            for (int off = 0; off <= FURTHEST; off++) {
                for (int m = 0; m < p.men; m++) {
                    int more = off - choice.offOf(p, m, p.stones);
                    if (more >= 0 && more < WAYS) {
                        whose[furrows] = m;
                        left[furrows] = WAYS - more;
                        furrows++;
                    }
                }
            }
            return waysFrom(p, man, itsName, 0, 0, 0);
        }

        /** From furrow k on, when a set of men have ploughed and a set of names is gone; as deep as there are furrows. */
        private int waysFrom(Parish p, int man, int itsName, int k, int ploughed, int gone) {
            if (itsName != NOTHING && (gone >> itsName & 1) != 0) {
                return 0;
            }
            int at = k;
            while (at < furrows && (ploughed >> whose[at] & 1) != 0) {
                at++;
            }
            if (at >= furrows) {
                return 0;
            }
            int next = whose[at];
            int got = choice.wish(p, next, gone);
            int after = ploughed | 1 << next;
            int ways = 0;
            if (next != man) {
                ways = waysFrom(p, man, itsName, at + 1, after, got == NOTHING ? gone : gone | 1 << got);
            } else if (got == itsName) {
                ways = waysOfOthers(at + 1, after);
            }
            return left[at] == 1 ? ways : ways + waysFrom(p, man, itsName, at + 1, ploughed, gone);
        }

        private int waysOfOthers(int k, int ploughed) {
            int ways = 1;
            int seen = ploughed;
            for (int at = k; at < furrows; at++) {
                if ((seen >> whose[at] & 1) == 0) {
                    seen |= 1 << whose[at];
                    ways *= left[at];
                }
            }
            return ways;
        }
    }

    /** The parish as it was ahead of the latest deeds, as many as are known. */
    static final class Past {
        private static final int KNOWN = 8;
        private final Parish[] before = new Parish[KNOWN];
        private int newest = 0;
        int size = 0;

        Past() {
            for (int i = 0; i < KNOWN; i++) {
                before[i] = new Parish();
            }
        }

        void forget() {
            size = 0;
        }

        void keep(Parish p) {
            size = Math.min(size + 1, KNOWN);
            newest = (newest + 1) % KNOWN;
            before[newest].become(p);
        }

        Parish latest() {
            return size == 0 ? null : before[newest];
        }

        void dropLatest() {
            if (size > 0) {
                size--;
                newest = (newest + KNOWN - 1) % KNOWN;
            }
        }

        void become(Past other) {
            size = other.size;
            newest = other.newest;
            for (int i = 0; i < KNOWN; i++) {
                before[i].become(other.before[i]);
            }
        }
    }

    /** The tape, and how it is read as a parish. */
    static final class Tape {
        private static final int LONGEST = 80;
        private static final String DIGITS = "0123456789";
        private final char[] letters = new char[LONGEST];
        int length = 0;
        /** Where the reading stands; where it failed, the place of the fault. */
        int place = 0;

        boolean takes(char letter) {
            if (length >= LONGEST) {
                return false;
            }
            letters[length] = letter;
            length++;
            return true;
        }

        boolean reads(Parish p) {
            place = 0;
            p.empty();
            p.stones = number();
            return p.stones != NOTHING && oneOf(";") != NOTHING && readsMen(p) && readsNames(p);
        }

        private boolean readsMen(Parish p) {
            for (int m = 1; m <= MOST; m++) {
                int kind = oneOf("prohd");
                int hand = kind == NOTHING ? NOTHING : oneOf(DIGITS);
                int oxen = hand == NOTHING ? NOTHING : oneOf("1234");
                if (oxen == NOTHING) {
                    return false;
                }
                p.addMan(kind, hand, oxen + 1);
                int next = oneOf(m < MOST ? ";," : ";");
                if (next <= 0) {
                    return next == 0;
                }
            }
            return false;
        }

        private boolean readsNames(Parish p) {
            for (int i = 1; i <= MOST; i++) {
                int worth = number();
                if (worth == NOTHING || oneOf("-") == NOTHING) {
                    return false;
                }
                int debt = number();
                if (debt == NOTHING) {
                    return false;
                }
                p.addName(worth, debt);
                skipBlanks();
                if (place >= length) {
                    return true;
                }
                if (i == MOST || oneOf(",") == NOTHING) {
                    return false;
                }
            }
            return false;
        }

        private void skipBlanks() {
            while (place < length && letters[place] == ' ') {
                place++;
            }
        }

        /** Which of some signs comes next, or NOTHING: then the reading stands at what does come. */
        private int oneOf(String signs) {
            skipBlanks();
            if (place >= length) {
                return NOTHING;
            }
            int which = signs.indexOf(letters[place]);
            if (which < 0) {
                return NOTHING;
            }
            place++;
            return which;
        }

        /** A number of one or two digits, or NOTHING: then the reading stands at its first digit, or what came instead. */
        private int number() {
            int value = oneOf(DIGITS);
            if (value == NOTHING) {
                return NOTHING;
            }
            int first = place - 1;
            if (place < length && letters[place] >= '0' && letters[place] <= '9') {
                value = value * 10 + letters[place] - '0';
                place++;
            }
            if (value > TOP_WORTH) {
                place = first;
                return NOTHING;
            }
            return value;
        }
    }

    /** A sheet: missing, or a row of a lane. The items of every lane are held as longs. */
    static final class Sheet {
        boolean isMissing = true;
        int lane = 0;
        int length = 0;
        final long[] items = new long[MOST_ITEMS];

        void renew(int itsLane, int n) {
            isMissing = false;
            lane = itsLane;
            length = n;
            Arrays.fill(items, 0L);
        }

        boolean has(int i, int n) {
            return i >= 0 && n >= 0 && i <= length - n;
        }

        void put(int i, long v) {
            switch (lane) {
                case 0: items[i] = (byte) v; break;
                case 1: items[i] = (short) v; break;
                case 2: items[i] = (int) v; break;
                default: items[i] = v;
            }
        }
    }
}
