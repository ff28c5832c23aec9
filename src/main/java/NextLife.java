/**
 * A bank whose boxes open only to whoever the owner has been reborn as: souls, boxes, years told
 * as small texts, and what can be said of them. The promises are those of the project's document.
 */
public final class NextLife {
    public static final int NONE = -6, UNKNOWN = -1, OUTSIDE = -2, STATE = -3, FULL = -4, NO = -5;
    public static final long LOST = -1000000000000000000L;

    private static final int SOULS = 8;
    private static final int BOXES = 6;
    private static final int ALL_MARKS = 255;
    private static final int MOST_HITS = 8;
    private static final int MOST_COINS = 999;
    private static final int LAST_YEAR = 99;
    private static final int PAD_SIGNS = 60;
    private static final int MOST_SIGHTS = 8;
    private static final int IMAGES = 2;
    private static final int NETTED_BASE = 10000;

    private final World now = new World();
    private final World[] images = new World[IMAGES];
    private final Pad pad = new Pad();
    private final Trial trial = new Trial();
    private final Matching matching = new Matching();
    private final Lawbook lawbook = new Lawbook();

    public NextLife() {
    }

    // ---- 1 souls, boxes, years

    public int birth(int soul, int marks, int purse) {
        if (!isSoul(soul)) {
            return UNKNOWN;
        }
        if (!isWithin(marks, 0, ALL_MARKS) || !isWithin(purse, 0, MOST_COINS)) {
            return OUTSIDE;
        }
        now.bear(soul, marks, purse);
        return Integer.bitCount(now.lives);
    }

    public int box(int box, int wants, int hits, int coins) {
        if (!isBox(box)) {
            return UNKNOWN;
        }
        if (!isWithin(wants, 0, ALL_MARKS) || !isWithin(hits, 0, MOST_HITS)
                || !isWithin(coins, 0, MOST_COINS)) {
            return OUTSIDE;
        }
        int had = now.coins[box];
        now.wants[box] = wants;
        now.hits[box] = hits;
        now.coins[box] = coins;
        return had;
    }

    public int say(int sign) {
        if (!isWithin(sign, 33, 126)) {
            return OUTSIDE;
        }
        return pad.put(sign) ? pad.count : FULL;
    }

    public int wipe() {
        int had = pad.count;
        pad.count = 0;
        return had;
    }

    public int fault() {
        return pad.faultPlace();
    }

    // ---- 2 years

    public int judge(int what) {
        if (!isWithin(what, 0, 1)) {
            return OUTSIDE;
        }
        if (pad.faultPlace() != NONE) {
            return NO;
        }
        trial.followPad(now, pad);
        return what == 0 ? trial.badAct : trial.badWhy;
    }

    public int done() {
        if (!yearsCanBe()) {
            return NO;
        }
        now.copyFrom(trial.world);
        pad.count = 0;
        return trial.acts;
    }

    public int behind(int soul, int what) {
        if (!isSoul(soul)) {
            return UNKNOWN;
        }
        if (!isWithin(what, 0, 3)) {
            return OUTSIDE;
        }
        if (!yearsCanBe()) {
            return NO;
        }
        switch (what) {
            case 0:
                return trial.world.isLiving(soul) ? 1 : 0;
            case 1:
                return trial.world.marks[soul];
            case 2:
                return trial.world.purses[soul];
            default:
                return trial.world.was[soul];
        }
    }

    public int then(int what) {
        if (!isWithin(what, 0, 3)) {
            return OUTSIDE;
        }
        if (!yearsCanBe()) {
            return NO;
        }
        switch (what) {
            case 0:
                return trial.world.lives;
            case 1:
                return trial.world.year;
            case 2:
                return trial.openedTries;
            default:
                return trial.otherTry;
        }
    }

    public int opens(int box) {
        return isBox(box) ? now.soulsLetIn(box) : UNKNOWN;
    }

    public int two() {
        int boxes = 0;
        for (int box = 0; box < BOXES; box++) {
            if (Integer.bitCount(now.soulsLetIn(box)) >= 2) {
                boxes |= 1 << box;
            }
        }
        return boxes;
    }

    public int chain(int soul, int what) {
        if (!isSoul(soul)) {
            return UNKNOWN;
        }
        if (!isWithin(what, 0, 1)) {
            return OUTSIDE;
        }
        int met = 1 << soul;
        int last = NONE;
        int ahead = now.was[soul];
        for (int step = 0; step < SOULS && isSoul(ahead) && !hasBit(met, ahead); step++) {
            met |= 1 << ahead;
            last = ahead;
            ahead = now.was[ahead];
        }
        return what == 0 ? Integer.bitCount(met) - 1 : last;
    }

    public int owes(int soul, int other) {
        if (!isSoul(soul) || !isSoul(other) || soul == other) {
            return UNKNOWN;
        }
        return now.debts[World.debtPlace(soul, other)];
    }

    public int netted(int soul) {
        if (!isSoul(soul)) {
            return UNKNOWN;
        }
        int sum = NETTED_BASE;
        for (int other = 0; other < SOULS; other++) {
            sum += now.debts[World.debtPlace(other, soul)] - now.debts[World.debtPlace(soul, other)];
        }
        return sum;
    }

    public int rings() {
        int souls = 0;
        for (int soul = 0; soul < SOULS; soul++) {
            if (hasBit(now.creditorsBehind(soul), soul)) {
                souls |= 1 << soul;
            }
        }
        return souls;
    }

    // ---- 3 notes, claims, matches

    public int note(int soul, int what) {
        if (!now.isLiving(soul)) {
            return UNKNOWN;
        }
        if (!isWithin(what, 0, 1)) {
            return OUTSIDE;
        }
        int marks = now.shortestNote(soul);
        if (marks == NONE) {
            return NONE;
        }
        return what == 0 ? Integer.bitCount(marks) : marks;
    }

    public int only(int box, int soul) {
        if (!isBox(box) || !now.isLiving(soul)) {
            return UNKNOWN;
        }
        int least = 0;
        for (int other = 0; other < SOULS; other++) {
            if (other != soul && now.isLiving(other)) {
                least = Math.max(least, now.felt(box, other) + 1);
            }
        }
        return least <= now.felt(box, soul) ? least : NONE;
    }

    public int share(int box, int soul) {
        if (!isBox(box) || !now.isLiving(soul)) {
            return UNKNOWN;
        }
        return now.shareOf(box, soul);
    }

    public int match(int soul) {
        if (soul != -1 && !now.isLiving(soul)) {
            return UNKNOWN;
        }
        matching.weigh(now);
        return soul == -1 ? matching.mostTogether() : matching.boxOf(now, soul);
    }

    // ---- 4 laws, next lives

    public int seen(int marks, boolean opened) {
        if (!isWithin(marks, 0, ALL_MARKS)) {
            return OUTSIDE;
        }
        return now.addSight(marks, opened) ? now.sights : FULL;
    }

    public int forget() {
        int had = now.sights;
        now.sights = 0;
        now.openedSights = 0;
        return had;
    }

    public int laws(int i) {
        return i == -1 ? lawbook.howMany(now) : lawbook.lawAt(now, i);
    }

    public int next(int what) {
        if (!isWithin(what, 0, 1)) {
            return OUTSIDE;
        }
        lawbook.weigh(now);
        int soul = lawbook.soulToTry(now);
        if (soul == NONE || what == 0) {
            return soul;
        }
        return lawbook.mostLeft(soul);
    }

    public long chance(int soul, int box, int n, int t, int part) {
        if (!now.isLiving(soul) || !isBox(box)) {
            return LOST + UNKNOWN;
        }
        if (!isWithin(n, 0, 2) || !isWithin(t, 0, 10) || !isWithin(part, 0, 1)) {
            return LOST + OUTSIDE;
        }
        int felt = now.felt(box, soul);
        long keep = power(t, n);
        long all = power(10, n);
        long upper = waysToKeep(felt, now.hits[box], keep, all - keep);
        long lower = power(all, felt);
        long common = commonDivisor(lower, upper);
        if (common < 1) {
            return LOST + OUTSIDE;
        }
        return (part == 0 ? upper : lower) / common;
    }

    public int book(int seed, int m, int what) {
        if (!isWithin(seed, 0, 9999) || !isWithin(m, 1, 99) || !isWithin(what, 0, 2)) {
            return OUTSIDE;
        }
        trial.followDraws(now, seed, m);
        switch (what) {
            case 0:
                return Integer.bitCount(trial.world.lives);
            case 1:
                return trial.world.pursesTogether();
            default:
                return trial.world.coinsLeft();
        }
    }

    public int image(int n) {
        if (!isWithin(n, 0, IMAGES - 1)) {
            return OUTSIDE;
        }
        World image = images[n];
        if (image == null) {
            image = new World();
            images[n] = image;
        }
        image.copyFrom(now);
        return 1;
    }

    public int restore(int n) {
        if (!isWithin(n, 0, IMAGES - 1)) {
            return OUTSIDE;
        }
        World image = images[n];
        if (image == null) {
            return STATE;
        }
        now.copyFrom(image);
        return 1;
    }

    public int told(int what) {
        if (what >= 100) {
            return toldOfSoul(what / 100 - 1, what % 100);
        }
        if (what >= 10) {
            return toldOfBox(what / 10 - 1, what % 10);
        }
        switch (what) {
            case 0:
                return pad.count;
            case 1:
                return now.lives;
            case 2:
                return now.year;
            case 3:
                return now.sights;
            default:
                return OUTSIDE;
        }
    }

    private int toldOfBox(int box, int what) {
        if (!isBox(box)) {
            return OUTSIDE;
        }
        switch (what) {
            case 0:
                return now.wants[box];
            case 1:
                return now.hits[box];
            case 2:
                return now.coins[box];
            default:
                return OUTSIDE;
        }
    }

    private int toldOfSoul(int soul, int what) {
        if (!isSoul(soul)) {
            return OUTSIDE;
        }
        switch (what) {
            case 0:
                return now.marks[soul];
            case 1:
                return now.purses[soul];
            case 2:
                return now.was[soul];
            default:
                return OUTSIDE;
        }
    }

    /** Leaves in the trial what is behind the years on the pad, if they can be. */
    private boolean yearsCanBe() {
        if (pad.faultPlace() != NONE) {
            return false;
        }
        trial.followPad(now, pad);
        return trial.badAct == NONE;
    }

    private static boolean isWithin(int number, int least, int most) {
        return number >= least && number <= most;
    }

    private static boolean isSoul(int soul) {
        return soul >= 0 && soul < SOULS;
    }

    private static boolean isBox(int box) {
        return box >= 0 && box < BOXES;
    }

    private static boolean hasBit(int bits, int place) {
        return (bits >> place & 1) == 1;
    }

    private static long power(long base, int times) {
        long product = 1;
        for (int i = 0; i < times; i++) {
            product *= base;
        }
        return product;
    }

    /** Each mark is kept in 'keep' ways and lost in 'lose' ways; at most (100 ways) to the 8th in all. */
    private static long waysToKeep(int felt, int hits, long keep, long lose) {
        long ways = 0;
        long choices = 1;
        for (int kept = 0; kept <= felt; kept++) {
            if (kept >= hits) {
                ways += choices * power(keep, kept) * power(lose, felt - kept);
            }
            choices = choices * (felt - kept) / (kept + 1);
        }
        return ways;
    }

    private static long commonDivisor(long first, long second) {
        long a = first;
        long b = second;
        // numbers up to 10 to the 16th need fewer than 80 steps
        for (int step = 0; step < 200 && b != 0; step++) {
            long rest = a % b;
            a = b;
            b = rest;
        }
        return a;
    }

    /** All that an image keeps: souls, debts, boxes, the year, sights. */
    private static final class World {
        private int lives = 0;
        private int year = 0;
        private int sights = 0;
        private int openedSights = 0;
        private final int[] marks = new int[SOULS];
        private final int[] purses = new int[SOULS];
        private final int[] was = new int[SOULS];
        private final int[] debts = new int[SOULS * SOULS];
        private final int[] wants = new int[BOXES];
        private final int[] hits = new int[BOXES];
        private final int[] coins = new int[BOXES];
        private final int[] sightMarks = new int[MOST_SIGHTS];

        private World() {
            for (int soul = 0; soul < SOULS; soul++) {
                was[soul] = NONE;
            }
            for (int box = 0; box < BOXES; box++) {
                hits[box] = 1;
            }
        }

        private static int debtPlace(int debtor, int creditor) {
            return debtor * SOULS + creditor;
        }

        private void copyFrom(World other) {
            lives = other.lives;
            year = other.year;
            sights = other.sights;
            openedSights = other.openedSights;
            System.arraycopy(other.marks, 0, marks, 0, SOULS);
            System.arraycopy(other.purses, 0, purses, 0, SOULS);
            System.arraycopy(other.was, 0, was, 0, SOULS);
            System.arraycopy(other.debts, 0, debts, 0, SOULS * SOULS);
            System.arraycopy(other.wants, 0, wants, 0, BOXES);
            System.arraycopy(other.hits, 0, hits, 0, BOXES);
            System.arraycopy(other.coins, 0, coins, 0, BOXES);
            System.arraycopy(other.sightMarks, 0, sightMarks, 0, MOST_SIGHTS);
        }

        private boolean isLiving(int soul) {
            return isSoul(soul) && hasBit(lives, soul);
        }

        private void bear(int soul, int itsMarks, int itsPurse) {
            lives |= 1 << soul;
            marks[soul] = itsMarks;
            purses[soul] = itsPurse;
            was[soul] = NONE;
            for (int other = 0; other < SOULS; other++) {
                debts[debtPlace(soul, other)] = 0;
                debts[debtPlace(other, soul)] = 0;
            }
        }

        /** How many of the marks that a box wants a soul has. */
        private int felt(int box, int soul) {
            return Integer.bitCount(wants[box] & marks[soul]);
        }

        private boolean letsIn(int box, int soul) {
            return isBox(box) && isLiving(soul) && felt(box, soul) >= hits[box];
        }

        private int soulsLetIn(int box) {
            int souls = 0;
            for (int soul = 0; soul < SOULS; soul++) {
                if (letsIn(box, soul)) {
                    souls |= 1 << soul;
                }
            }
            return souls;
        }

        private int boxesFor(int soul) {
            int boxes = 0;
            for (int box = 0; box < BOXES; box++) {
                if (letsIn(box, soul)) {
                    boxes |= 1 << box;
                }
            }
            return boxes;
        }

        /** Why an act can not be: the least reason, 0 if it can. */
        private int hindrance(Act act) {
            if (act.kind == Act.YEAR_ENDS) {
                return year >= LAST_YEAR ? 5 : 0;
            }
            if (!isLiving(act.first)) {
                return 1;
            }
            if (act.kind == Act.TRIES) {
                return 0;
            }
            if (act.first == act.second) {
                return 2;
            }
            if (act.kind == Act.DIES) {
                return !isSoul(act.second) || isLiving(act.second) ? 3 : 0;
            }
            if (!isLiving(act.second)) {
                return 3;
            }
            return canLend(act.first, act.second, act.coins) ? 0 : 4;
        }

        private boolean canLend(int lender, int debtor, int sum) {
            return purses[lender] >= sum && debts[debtPlace(debtor, lender)] + sum <= MOST_COINS;
        }

        /** The act must have no hindrance. */
        private void perform(Act act) {
            switch (act.kind) {
                case Act.YEAR_ENDS:
                    year++;
                    break;
                case Act.DIES:
                    comeBack(act.first, act.second);
                    break;
                case Act.LENDS:
                    lend(act.first, act.second, act.coins);
                    break;
                default:
                    tryBox(act.first, act.second);
                    break;
            }
        }

        private void tryBox(int soul, int box) {
            if (letsIn(box, soul)) {
                fillPurse(soul, coins[box]);
                coins[box] = 0;
            }
        }

        private void comeBack(int soul, int other) {
            lives ^= 1 << soul;
            lives |= 1 << other;
            marks[other] = marks[soul] & marks[soul] - 1;
            purses[other] = purses[soul] / 2;
            was[other] = soul;
            // told() and behind() answer 0 for who does not live
            marks[soul] = 0;
            purses[soul] = 0;
            for (int third = 0; third < SOULS; third++) {
                moveDebt(debtPlace(soul, third), debtPlace(other, third));
                moveDebt(debtPlace(third, soul), debtPlace(third, other));
            }
        }

        private void moveDebt(int from, int to) {
            debts[to] = debts[from];
            debts[from] = 0;
        }

        private void lend(int lender, int debtor, int sum) {
            purses[lender] -= sum;
            fillPurse(debtor, sum);
            debts[debtPlace(debtor, lender)] += sum;
        }

        private void fillPurse(int soul, int sum) {
            purses[soul] = Math.min(MOST_COINS, purses[soul] + sum);
        }

        /** Souls that this one owes, and those that they owe, and so on. */
        private int creditorsBehind(int soul) {
            int found = creditorsOf(soul);
            for (int step = 0; step < SOULS; step++) {
                for (int debtor = 0; debtor < SOULS; debtor++) {
                    if (hasBit(found, debtor)) {
                        found |= creditorsOf(debtor);
                    }
                }
            }
            return found;
        }

        private int creditorsOf(int soul) {
            int found = 0;
            for (int other = 0; other < SOULS; other++) {
                if (debts[debtPlace(soul, other)] > 0) {
                    found |= 1 << other;
                }
            }
            return found;
        }

        private int shortestNote(int soul) {
            int best = NONE;
            for (int set = 0; set <= ALL_MARKS; set++) {
                boolean shorter = best == NONE || Integer.bitCount(set) < Integer.bitCount(best);
                if ((set & marks[soul]) == set && shorter && !anotherHas(soul, set)) {
                    best = set;
                }
            }
            return best;
        }

        private boolean anotherHas(int soul, int set) {
            for (int other = 0; other < SOULS; other++) {
                if (other != soul && isLiving(other) && (marks[other] & set) == set) {
                    return true;
                }
            }
            return false;
        }

        private int shareOf(int box, int soul) {
            int mine = felt(box, soul);
            int all = 0;
            for (int other = 0; other < SOULS; other++) {
                all += isLiving(other) ? felt(box, other) : 0;
            }
            if (mine == 0 || all == 0) {
                return 0;
            }
            int over = coins[box];
            int ahead = 0;
            for (int other = 0; other < SOULS; other++) {
                int its = isLiving(other) ? felt(box, other) : 0;
                over -= coins[box] * its / all;
                if (its > mine || its == mine && other < soul) {
                    ahead++;
                }
            }
            return coins[box] * mine / all + (ahead < over ? 1 : 0);
        }

        private int pursesTogether() {
            int sum = 0;
            for (int soul = 0; soul < SOULS; soul++) {
                sum += isLiving(soul) ? purses[soul] : 0;
            }
            return sum;
        }

        private int coinsLeft() {
            int sum = 0;
            for (int box = 0; box < BOXES; box++) {
                sum += coins[box];
            }
            return sum;
        }

        private boolean addSight(int itsMarks, boolean opened) {
            if (sights >= MOST_SIGHTS) {
                return false;
            }
            sightMarks[sights] = itsMarks;
            openedSights |= opened ? 1 << sights : 0;
            sights++;
            return true;
        }
    }

    /** One act, told by the pad or by a draw; the same object is filled again and again. */
    private static final class Act {
        private static final int YEAR_ENDS = 0;
        private static final int DIES = 1;
        private static final int LENDS = 2;
        private static final int TRIES = 3;

        private int kind = YEAR_ENDS;
        private int first = 0;
        /** The other soul, or the box. */
        private int second = 0;
        private int coins = 0;

        private Act() {
        }

        /** The pad must have no fault; answers how many signs the act has. */
        private int readFrom(Pad pad, int place) {
            int sign = pad.signAt(place);
            if (sign == '.') {
                kind = YEAR_ENDS;
                return 1;
            }
            first = sign - 'A';
            int verb = pad.signAt(place + 1);
            if (verb == '>') {
                kind = DIES;
                second = pad.signAt(place + 2) - 'A';
                return 3;
            }
            if (verb == '=') {
                kind = LENDS;
                coins = pad.signAt(place + 2) - '0';
                second = pad.signAt(place + 3) - 'A';
                return 4;
            }
            kind = TRIES;
            second = verb - '0';
            return 2;
        }

        private void drawFrom(int draw) {
            int lot = draw % 8;
            first = draw / 8 % SOULS;
            second = draw / 64 % SOULS;
            if (lot == 0) {
                kind = YEAR_ENDS;
            } else if (lot == 1) {
                kind = DIES;
            } else if (lot <= 3) {
                kind = LENDS;
                coins = 1 + draw / 512 % 9;
            } else {
                kind = TRIES;
                second = draw / 64 % BOXES;
            }
        }
    }

    /** The signs of the years. */
    private static final class Pad {
        private static final int AT_START = 0;
        private static final int AT_VERB = 1;
        private static final int AT_COINS = 2;
        private static final int AT_OTHER = 3;

        private final int[] signs = new int[PAD_SIGNS];
        private int count = 0;

        private Pad() {
        }

        private boolean put(int sign) {
            if (count >= PAD_SIGNS) {
                return false;
            }
            signs[count] = sign;
            count++;
            return true;
        }

        private int signAt(int place) {
            return place >= 0 && place < count ? signs[place] : 0;
        }

        private int faultPlace() {
            int at = AT_START;
            for (int place = 0; place < count; place++) {
                at = stepOver(at, signAt(place));
                if (at == NONE) {
                    return place;
                }
            }
            return at == AT_START ? NONE : count;
        }

        /** Where the next sign stands; NONE if this one can not stand here. */
        private static int stepOver(int at, int sign) {
            boolean isLetter = isWithin(sign, 'A', 'H');
            switch (at) {
                case AT_START:
                    return sign == '.' ? AT_START : isLetter ? AT_VERB : NONE;
                case AT_VERB:
                    if (sign == '>') {
                        return AT_OTHER;
                    }
                    if (sign == '=') {
                        return AT_COINS;
                    }
                    return isWithin(sign, '0', '5') ? AT_START : NONE;
                case AT_COINS:
                    return isWithin(sign, '1', '9') ? AT_OTHER : NONE;
                default:
                    return isLetter ? AT_START : NONE;
            }
        }
    }

    /** Acts followed in a world of their own, so that nothing is done in fact. */
    private static final class Trial {
        private final World world = new World();
        private final Act act = new Act();
        private int acts = 0;
        private int badAct = NONE;
        private int badWhy = NONE;
        private int openedTries = 0;
        private int otherTry = NONE;

        private Trial() {
        }

        /** The pad must have no fault; ends at the first act that can not be. */
        private void followPad(World from, Pad pad) {
            world.copyFrom(from);
            acts = 0;
            badAct = NONE;
            badWhy = NONE;
            openedTries = 0;
            otherTry = NONE;
            int place = 0;
            for (int i = 0; i < PAD_SIGNS && place < pad.count; i++) {
                place += act.readFrom(pad, place);
                int why = world.hindrance(act);
                if (why != 0) {
                    badAct = acts;
                    badWhy = why;
                    return;
                }
                countTry();
                world.perform(act);
                acts++;
            }
        }

        private void countTry() {
            if (act.kind != Act.TRIES) {
                return;
            }
            if (world.letsIn(act.second, act.first)) {
                openedTries++;
            } else if (otherTry == NONE) {
                otherTry = acts;
            }
        }

        private void followDraws(World from, int seed, int draws) {
            world.copyFrom(from);
            int draw = seed;
            for (int i = 0; i < draws; i++) {
                draw = (75 * draw + 74) % 65537;
                act.drawFrom(draw);
                if (world.hindrance(act) == 0) {
                    world.perform(act);
                }
            }
        }
    }

    /** The most coins that souls from one on can get out of each set of free boxes. */
    private static final class Matching {
        private static final int SETS = 1 << BOXES;

        private final int[] most = new int[(SOULS + 1) * SETS];

        private Matching() {
        }

        private void weigh(World world) {
            // behind the last soul stands a row of zeros, which is never written
            for (int soul = SOULS - 1; soul >= 0; soul--) {
                int boxes = world.boxesFor(soul);
                for (int free = 0; free < SETS; free++) {
                    most[soul * SETS + free] = mostOf(world, soul, boxes & free, free);
                }
            }
        }

        private int mostOf(World world, int soul, int boxes, int free) {
            int best = mostBehind(soul, free);
            for (int box = 0; box < BOXES && boxes >> box != 0; box++) {
                if (hasBit(boxes, box)) {
                    best = Math.max(best, mostWith(world, soul, box, free));
                }
            }
            return best;
        }

        private int mostBehind(int soul, int free) {
            return most[(soul + 1) * SETS + free];
        }

        private int mostWith(World world, int soul, int box, int free) {
            return world.coins[box] + mostBehind(soul, free & ~(1 << box));
        }

        private int mostTogether() {
            return most[SETS - 1];
        }

        /** The box of a soul in the first best way: each soul ahead takes its own first. */
        private int boxOf(World world, int wanted) {
            int free = SETS - 1;
            int box = NONE;
            for (int soul = 0; soul < SOULS && soul <= wanted; soul++) {
                box = leastBestBox(world, soul, free);
                free = box == NONE ? free : free & ~(1 << box);
            }
            return box;
        }

        private int leastBestBox(World world, int soul, int free) {
            int boxes = world.boxesFor(soul) & free;
            for (int box = 0; box < BOXES; box++) {
                if (hasBit(boxes, box) && mostWith(world, soul, box, free) == most[soul * SETS + free]) {
                    return box;
                }
            }
            return NONE;
        }
    }

    /** The laws that all sights fit: for each set of wants the hits that fit stand side by side. */
    private static final class Lawbook {
        /** By how many laws a box opens to each soul. */
        private final int[] opening = new int[SOULS];
        private int total = 0;

        private Lawbook() {
        }

        private static int leastHits(World world, int wants) {
            int least = 1;
            for (int i = 0; i < world.sights; i++) {
                if (!hasBit(world.openedSights, i)) {
                    least = Math.max(least, Integer.bitCount(wants & world.sightMarks[i]) + 1);
                }
            }
            return least;
        }

        private static int mostHits(World world, int wants) {
            int most = Integer.bitCount(wants);
            for (int i = 0; i < world.sights; i++) {
                if (hasBit(world.openedSights, i)) {
                    most = Math.min(most, Integer.bitCount(wants & world.sightMarks[i]));
                }
            }
            return most;
        }

        private int howMany(World world) {
            weigh(world);
            return total;
        }

        private int lawAt(World world, int i) {
            if (i < 0) {
                return NONE;
            }
            int ahead = 0;
            for (int wants = 1; wants <= ALL_MARKS; wants++) {
                int least = leastHits(world, wants);
                int fitting = Math.max(0, mostHits(world, wants) - least + 1);
                if (i - ahead < fitting) {
                    return 10 * wants + least + i - ahead;
                }
                ahead += fitting;
            }
            return NONE;
        }

        private void weigh(World world) {
            total = 0;
            for (int soul = 0; soul < SOULS; soul++) {
                opening[soul] = 0;
            }
            for (int wants = 1; wants <= ALL_MARKS; wants++) {
                weighWants(world, wants, leastHits(world, wants), mostHits(world, wants));
            }
        }

        private void weighWants(World world, int wants, int least, int most) {
            if (least > most) {
                return;
            }
            total += most - least + 1;
            for (int soul = 0; soul < SOULS; soul++) {
                int reach = Math.min(most, Integer.bitCount(wants & world.marks[soul]));
                opening[soul] += Math.max(0, reach - least + 1);
            }
        }

        /** The laws must have been weighed. */
        private int mostLeft(int soul) {
            return isSoul(soul) ? Math.max(opening[soul], total - opening[soul]) : NONE;
        }

        private int soulToTry(World world) {
            int best = NONE;
            for (int soul = 0; soul < SOULS && total > 0; soul++) {
                if (world.isLiving(soul) && (best == NONE || mostLeft(soul) < mostLeft(best))) {
                    best = soul;
                }
            }
            return best;
        }
    }
}
