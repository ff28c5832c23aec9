import java.math.BigInteger;
import java.util.ArrayList;
import java.util.HashMap;
import java.util.HashSet;
import java.util.LinkedHashSet;
import java.util.List;
import java.util.Map;
import java.util.Set;
import java.util.TreeMap;

/**
 * The document told a second time, in the slowest and plainest way (lists, maps, all ways tried),
 * so that the class can be compared with it on calls drawn by lot.
 */
final class Model {
    static final int NONE = -6, UNKNOWN = -1, OUTSIDE = -2, STATE = -3, FULL = -4, NO = -5;
    static final long LOST = -1000000000000000000L;

    static final class Soul {
        boolean lives;
        Set<Integer> marks = new HashSet<>();
        int purse;
        Integer was;

        Soul copy() {
            Soul s = new Soul();
            s.lives = lives;
            s.marks = new HashSet<>(marks);
            s.purse = purse;
            s.was = was;
            return s;
        }
    }

    static final class Box {
        Set<Integer> wants = new HashSet<>();
        int hits = 1;
        int coins;

        Box copy() {
            Box b = new Box();
            b.wants = new HashSet<>(wants);
            b.hits = hits;
            b.coins = coins;
            return b;
        }
    }

    static final class Sight {
        final int marks;
        final boolean opened;

        Sight(int marks, boolean opened) {
            this.marks = marks;
            this.opened = opened;
        }
    }

    static final class State {
        List<Soul> souls = new ArrayList<>();
        List<Box> boxes = new ArrayList<>();
        Map<String, Integer> owed = new HashMap<>();
        List<Sight> sights = new ArrayList<>();
        int year;

        State copy() {
            State s = new State();
            for (Soul soul : souls) {
                s.souls.add(soul.copy());
            }
            for (Box box : boxes) {
                s.boxes.add(box.copy());
            }
            s.owed = new HashMap<>(owed);
            s.sights = new ArrayList<>(sights);
            s.year = year;
            return s;
        }

        int owes(int debtor, int creditor) {
            return owed.getOrDefault(debtor + "-" + creditor, 0);
        }

        boolean opens(int box, int soul) {
            return souls.get(soul).lives && felt(box, soul) >= boxes.get(box).hits;
        }

        int felt(int box, int soul) {
            Set<Integer> both = new HashSet<>(souls.get(soul).marks);
            both.retainAll(boxes.get(box).wants);
            return both.size();
        }

        int living() {
            int bits = 0;
            for (int i = 0; i < 8; i++) {
                bits += souls.get(i).lives ? 1 << i : 0;
            }
            return bits;
        }

        /** The reasons that hold, the least told; 0: it was done. */
        int doAct(String act) {
            if (act.equals(".")) {
                if (year == 99) {
                    return 5;
                }
                year++;
                return 0;
            }
            int first = act.charAt(0) - 'A';
            Soul a = souls.get(first);
            if (!a.lives) {
                return 1;
            }
            char verb = act.charAt(1);
            if (verb != '>' && verb != '=') {
                Box box = boxes.get(verb - '0');
                if (opens(verb - '0', first)) {
                    a.purse = Math.min(999, a.purse + box.coins);
                    box.coins = 0;
                }
                return 0;
            }
            int second = act.charAt(act.length() - 1) - 'A';
            Soul b = souls.get(second);
            if (first == second) {
                return 2;
            }
            return verb == '>' ? die(first, second, a, b) : give(first, second, a, b, act.charAt(2) - '0');
        }

        private int die(int first, int second, Soul a, Soul b) {
            if (b.lives) {
                return 3;
            }
            b.lives = true;
            b.marks = new HashSet<>(a.marks);
            for (int mark = 0; mark < 8; mark++) {
                if (b.marks.remove(mark)) {
                    break;
                }
            }
            b.purse = a.purse / 2;
            b.was = first;
            a.lives = false;
            a.marks = new HashSet<>();
            a.purse = 0;
            Map<String, Integer> moved = new HashMap<>();
            for (Map.Entry<String, Integer> e : owed.entrySet()) {
                moved.put(e.getKey().replace("" + first, "" + second), e.getValue());
            }
            owed = moved;
            return 0;
        }

        private int give(int first, int second, Soul a, Soul b, int sum) {
            if (!b.lives) {
                return 3;
            }
            if (a.purse < sum || owes(second, first) + sum > 999) {
                return 4;
            }
            a.purse -= sum;
            b.purse = Math.min(999, b.purse + sum);
            owed.put(second + "-" + first, owes(second, first) + sum);
            return 0;
        }
    }

    State state = new State();
    final State[] images = new State[2];
    final StringBuilder pad = new StringBuilder();

    Model() {
        for (int i = 0; i < 8; i++) {
            state.souls.add(new Soul());
        }
        for (int i = 0; i < 6; i++) {
            state.boxes.add(new Box());
        }
    }

    static Set<Integer> set(int bits) {
        Set<Integer> s = new HashSet<>();
        for (int i = 0; i < 8; i++) {
            if ((bits & 1 << i) != 0) {
                s.add(i);
            }
        }
        return s;
    }

    static int bits(Set<Integer> s) {
        int bits = 0;
        for (int i : s) {
            bits += 1 << i;
        }
        return bits;
    }

    boolean soul(int i) {
        return 0 <= i && i <= 7;
    }

    boolean living(int i) {
        return soul(i) && state.souls.get(i).lives;
    }

    boolean boxed(int i) {
        return 0 <= i && i <= 5;
    }

    int birth(int soul, int marks, int purse) {
        if (!soul(soul)) {
            return UNKNOWN;
        }
        if (marks < 0 || marks > 255 || purse < 0 || purse > 999) {
            return OUTSIDE;
        }
        Soul s = new Soul();
        s.lives = true;
        s.marks = set(marks);
        s.purse = purse;
        state.souls.set(soul, s);
        state.owed.keySet().removeIf(k -> k.contains("" + soul));
        return Integer.bitCount(state.living());
    }

    int box(int box, int wants, int hits, int coins) {
        if (!boxed(box)) {
            return UNKNOWN;
        }
        if (wants < 0 || wants > 255 || hits < 0 || hits > 8 || coins < 0 || coins > 999) {
            return OUTSIDE;
        }
        int had = state.boxes.get(box).coins;
        Box b = new Box();
        b.wants = set(wants);
        b.hits = hits;
        b.coins = coins;
        state.boxes.set(box, b);
        return had;
    }

    int say(int sign) {
        if (sign < 33 || sign > 126) {
            return OUTSIDE;
        }
        if (pad.length() == 60) {
            return FULL;
        }
        return pad.append((char) sign).length();
    }

    int wipe() {
        int had = pad.length();
        pad.setLength(0);
        return had;
    }

    private static final String ACTS = "(\\.|[A-H]([0-5]|>[A-H]|=[1-9][A-H]))*";

    /** A beginning can stand if some end makes a text of it. */
    private static boolean canStand(String start) {
        for (String end : new String[] {"", "0", "A", "1A"}) {
            if ((start + end).matches(ACTS)) {
                return true;
            }
        }
        return false;
    }

    int fault() {
        String text = pad.toString();
        if (text.matches(ACTS)) {
            return NONE;
        }
        for (int i = 0; i < text.length(); i++) {
            if (!canStand(text.substring(0, i + 1))) {
                return i;
            }
        }
        return text.length();
    }

    List<String> acts() {
        List<String> acts = new ArrayList<>();
        String rest = pad.toString();
        while (!rest.isEmpty()) {
            int n = 1;
            while (!rest.substring(0, n).matches(ACTS)) {
                n++;
            }
            acts.add(rest.substring(0, n));
            rest = rest.substring(n);
        }
        return acts;
    }

    int judge(int what) {
        if (what != 0 && what != 1) {
            return OUTSIDE;
        }
        if (fault() != NONE) {
            return NO;
        }
        State s = state.copy();
        List<String> acts = acts();
        for (int i = 0; i < acts.size(); i++) {
            int why = s.doAct(acts.get(i));
            if (why != 0) {
                return what == 0 ? i : why;
            }
        }
        return NONE;
    }

    State stateBehind() {
        if (fault() != NONE || judge(0) != NONE) {
            return null;
        }
        State s = state.copy();
        for (String act : acts()) {
            s.doAct(act);
        }
        return s;
    }

    int done() {
        State s = stateBehind();
        if (s == null) {
            return NO;
        }
        int n = acts().size();
        state = s;
        pad.setLength(0);
        return n;
    }

    int behind(int soul, int what) {
        if (!soul(soul)) {
            return UNKNOWN;
        }
        if (what < 0 || what > 3) {
            return OUTSIDE;
        }
        State s = stateBehind();
        if (s == null) {
            return NO;
        }
        Soul one = s.souls.get(soul);
        int[] all = {one.lives ? 1 : 0, bits(one.marks), one.purse, one.was == null ? NONE : one.was};
        return all[what];
    }

    int then(int what) {
        if (what < 0 || what > 3) {
            return OUTSIDE;
        }
        State s = stateBehind();
        if (s == null) {
            return NO;
        }
        State step = state.copy();
        int tries = 0;
        int other = NONE;
        List<String> acts = acts();
        for (int i = 0; i < acts.size(); i++) {
            String act = acts.get(i);
            if (act.length() == 2) {
                if (step.opens(act.charAt(1) - '0', act.charAt(0) - 'A')) {
                    tries++;
                } else if (other == NONE) {
                    other = i;
                }
            }
            step.doAct(act);
        }
        int[] all = {s.living(), s.year, tries, other};
        return all[what];
    }

    int opens(int box) {
        if (!boxed(box)) {
            return UNKNOWN;
        }
        int bits = 0;
        for (int i = 0; i < 8; i++) {
            bits += state.opens(box, i) ? 1 << i : 0;
        }
        return bits;
    }

    int two() {
        int bits = 0;
        for (int i = 0; i < 6; i++) {
            bits += Integer.bitCount(opens(i)) > 1 ? 1 << i : 0;
        }
        return bits;
    }

    int chain(int soul, int what) {
        if (!soul(soul)) {
            return UNKNOWN;
        }
        if (what < 0 || what > 1) {
            return OUTSIDE;
        }
        LinkedHashSet<Integer> met = new LinkedHashSet<>();
        Integer at = soul;
        int last = NONE;
        while (at != null && met.add(at)) {
            last = at;
            at = state.souls.get(at).was;
        }
        if (what == 0) {
            return met.size() - 1;
        }
        return met.size() == 1 ? NONE : last;
    }

    int owes(int soul, int other) {
        return !soul(soul) || !soul(other) || soul == other ? UNKNOWN : state.owes(soul, other);
    }

    int netted(int soul) {
        if (!soul(soul)) {
            return UNKNOWN;
        }
        int sum = 10000;
        for (int i = 0; i < 8; i++) {
            sum += state.owes(i, soul) - state.owes(soul, i);
        }
        return sum;
    }

    int rings() {
        boolean[][] path = new boolean[8][8];
        for (int i = 0; i < 8; i++) {
            for (int j = 0; j < 8; j++) {
                path[i][j] = state.owes(i, j) > 0;
            }
        }
        for (int k = 0; k < 8; k++) {
            for (int i = 0; i < 8; i++) {
                for (int j = 0; j < 8; j++) {
                    path[i][j] |= path[i][k] && path[k][j];
                }
            }
        }
        int bits = 0;
        for (int i = 0; i < 8; i++) {
            bits += path[i][i] ? 1 << i : 0;
        }
        return bits;
    }

    int note(int soul, int what) {
        if (!living(soul)) {
            return UNKNOWN;
        }
        if (what < 0 || what > 1) {
            return OUTSIDE;
        }
        for (int size = 0; size <= 8; size++) {
            for (int set = 0; set < 256; set++) {
                if (Integer.bitCount(set) == size && followers(set) == 1 << soul) {
                    return what == 0 ? size : set;
                }
            }
        }
        return NONE;
    }

    private int followers(int set) {
        int bits = 0;
        for (int i = 0; i < 8; i++) {
            Soul s = state.souls.get(i);
            bits += s.lives && s.marks.containsAll(set(set)) ? 1 << i : 0;
        }
        return bits;
    }

    int only(int box, int soul) {
        if (!boxed(box) || !living(soul)) {
            return UNKNOWN;
        }
        int kept = state.boxes.get(box).hits;
        int found = NONE;
        for (int hits = 8; hits >= 0; hits--) {
            state.boxes.get(box).hits = hits;
            found = opens(box) == 1 << soul ? hits : found;
        }
        state.boxes.get(box).hits = kept;
        return found;
    }

    int share(int box, int soul) {
        if (!boxed(box) || !living(soul)) {
            return UNKNOWN;
        }
        int coins = state.boxes.get(box).coins;
        List<Integer> claims = new ArrayList<>();
        int all = 0;
        for (int i = 0; i < 8; i++) {
            if (living(i) && state.felt(box, i) > 0) {
                claims.add(i);
                all += state.felt(box, i);
            }
        }
        claims.sort((a, b) -> state.felt(box, a) != state.felt(box, b)
                ? state.felt(box, b) - state.felt(box, a) : a - b);
        Map<Integer, Integer> parts = new TreeMap<>();
        int over = coins;
        for (int i : claims) {
            parts.put(i, coins * state.felt(box, i) / all);
            over -= parts.get(i);
        }
        for (int i = 0; i < over && !claims.isEmpty(); i++) {
            parts.merge(claims.get(i), 1, Integer::sum);
        }
        return parts.getOrDefault(soul, 0);
    }

    private int mostCoins;
    private int[] firstWay;

    int match(int soul) {
        if (soul != -1 && !living(soul)) {
            return UNKNOWN;
        }
        mostCoins = -1;
        tryWays(0, new int[8], 0, 0);
        return soul == -1 ? mostCoins : firstWay[soul];
    }

    /** Ways come in their order, so the first of the best stays. */
    private void tryWays(int soul, int[] way, int used, int coins) {
        if (soul == 8) {
            if (coins > mostCoins) {
                mostCoins = coins;
                firstWay = way.clone();
            }
            return;
        }
        for (int box = 0; box < 6; box++) {
            if ((used & 1 << box) == 0 && state.opens(box, soul)) {
                way[soul] = box;
                tryWays(soul + 1, way, used | 1 << box, coins + state.boxes.get(box).coins);
            }
        }
        way[soul] = NONE;
        tryWays(soul + 1, way, used, coins);
    }

    int seen(int marks, boolean opened) {
        if (marks < 0 || marks > 255) {
            return OUTSIDE;
        }
        if (state.sights.size() == 8) {
            return FULL;
        }
        state.sights.add(new Sight(marks, opened));
        return state.sights.size();
    }

    int forget() {
        int had = state.sights.size();
        state.sights.clear();
        return had;
    }

    private List<int[]> fitting() {
        List<int[]> laws = new ArrayList<>();
        for (int wants = 1; wants < 256; wants++) {
            for (int hits = 1; hits <= Integer.bitCount(wants); hits++) {
                boolean fits = true;
                for (Sight s : state.sights) {
                    fits &= Integer.bitCount(wants & s.marks) >= hits == s.opened;
                }
                if (fits) {
                    laws.add(new int[] {wants, hits});
                }
            }
        }
        return laws;
    }

    int laws(int i) {
        List<int[]> laws = fitting();
        if (i == -1) {
            return laws.size();
        }
        return i < 0 || i >= laws.size() ? NONE : 10 * laws.get(i)[0] + laws.get(i)[1];
    }

    int next(int what) {
        if (what < 0 || what > 1) {
            return OUTSIDE;
        }
        List<int[]> laws = fitting();
        int best = NONE;
        int fewest = NONE;
        for (int soul = 7; soul >= 0; soul--) {
            if (living(soul) && !laws.isEmpty()) {
                int open = 0;
                for (int[] law : laws) {
                    open += Integer.bitCount(law[0] & bits(state.souls.get(soul).marks)) >= law[1] ? 1 : 0;
                }
                int left = Math.max(open, laws.size() - open);
                if (best == NONE || left <= fewest) {
                    best = soul;
                    fewest = left;
                }
            }
        }
        return what == 0 ? best : fewest;
    }

    /** Life by life over all sets of marks, each with its weight. */
    long chance(int soul, int box, int n, int t, int part) {
        if (!living(soul) || !boxed(box)) {
            return LOST + UNKNOWN;
        }
        if (n < 0 || n > 2 || t < 0 || t > 10 || part < 0 || part > 1) {
            return LOST + OUTSIDE;
        }
        BigInteger[] weights = new BigInteger[256];
        java.util.Arrays.fill(weights, BigInteger.ZERO);
        weights[bits(state.souls.get(soul).marks)] = BigInteger.ONE;
        BigInteger lower = BigInteger.ONE;
        for (int life = 0; life < n; life++) {
            weights = nextLife(weights, t);
            lower = lower.multiply(BigInteger.TEN.pow(8));
        }
        BigInteger upper = BigInteger.ZERO;
        int wants = bits(state.boxes.get(box).wants);
        for (int set = 0; set < 256; set++) {
            if (Integer.bitCount(set & wants) >= state.boxes.get(box).hits) {
                upper = upper.add(weights[set]);
            }
        }
        BigInteger common = upper.gcd(lower);
        return (part == 0 ? upper : lower).divide(common).longValueExact();
    }

    /** A mark that is not there is lost with all ten tenths. */
    private static BigInteger[] nextLife(BigInteger[] weights, int t) {
        BigInteger[] after = new BigInteger[256];
        java.util.Arrays.fill(after, BigInteger.ZERO);
        for (int set = 0; set < 256; set++) {
            if (weights[set].signum() == 0) {
                continue;
            }
            for (int kept = 0; kept < 256; kept++) {
                if ((kept & ~set) == 0) {
                    int lost = Integer.bitCount(set & ~kept);
                    BigInteger ways = BigInteger.valueOf(t).pow(Integer.bitCount(kept))
                            .multiply(BigInteger.valueOf(10 - t).pow(lost))
                            .multiply(BigInteger.TEN.pow(8 - Integer.bitCount(set)));
                    after[kept] = after[kept].add(weights[set].multiply(ways));
                }
            }
        }
        return after;
    }

    int book(int seed, int m, int what) {
        if (seed < 0 || seed > 9999 || m < 1 || m > 99 || what < 0 || what > 2) {
            return OUTSIDE;
        }
        State s = state.copy();
        long x = seed;
        for (int i = 0; i < m; i++) {
            x = (75 * x + 74) % 65537;
            char first = (char) ('A' + x / 8 % 8);
            char second = (char) ('A' + x / 64 % 8);
            int lot = (int) (x % 8);
            if (lot == 0) {
                s.doAct(".");
            } else if (lot == 1) {
                s.doAct(first + ">" + second);
            } else if (lot == 2 || lot == 3) {
                s.doAct(first + "=" + (1 + x / 512 % 9) + second);
            } else {
                s.doAct(first + "" + x / 64 % 6);
            }
        }
        int purses = 0;
        int coins = 0;
        for (Soul soul : s.souls) {
            purses += soul.lives ? soul.purse : 0;
        }
        for (Box box : s.boxes) {
            coins += box.coins;
        }
        int[] all = {Integer.bitCount(s.living()), purses, coins};
        return all[what];
    }

    int image(int n) {
        if (n < 0 || n > 1) {
            return OUTSIDE;
        }
        images[n] = state.copy();
        return 1;
    }

    int restore(int n) {
        if (n < 0 || n > 1) {
            return OUTSIDE;
        }
        if (images[n] == null) {
            return STATE;
        }
        state = images[n].copy();
        return 1;
    }

    int told(int what) {
        Map<Integer, Integer> all = new HashMap<>();
        all.put(0, pad.length());
        all.put(1, state.living());
        all.put(2, state.year);
        all.put(3, state.sights.size());
        for (int i = 0; i < 6; i++) {
            Box b = state.boxes.get(i);
            all.put(10 * (1 + i), bits(b.wants));
            all.put(10 * (1 + i) + 1, b.hits);
            all.put(10 * (1 + i) + 2, b.coins);
        }
        for (int i = 0; i < 8; i++) {
            Soul s = state.souls.get(i);
            all.put(100 * (1 + i), bits(s.marks));
            all.put(100 * (1 + i) + 1, s.purse);
            all.put(100 * (1 + i) + 2, s.was == null ? NONE : s.was);
        }
        return all.getOrDefault(what, OUTSIDE);
    }
}
