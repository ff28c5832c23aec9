/** The edges of what acts do (promise 8): tries, deaths, loans, years; a purse that is full or empty. */
public final class ActsEdgesTest {
    private static final Check CHECK = new Check();
    private static final int NONE = NextLife.NONE;

    public static void main(String[] args) {
        hitsThatAreEnough();
        noHitsAtAll();
        moreHitsThanMarks();
        whoDoesNotLiveOpensNothing();
        nothingComesOfATry();
        coinsAreTakenOnce();
        pursesThatOverflowByTries();
        pursesThatOverflowByLoans();
        theLeastMarkGoes();
        halfThePurse();
        whoDiesAndWhoLives();
        debtsMove();
        debtsOfOthersStay();
        thereAndBack();
        otherActsOpenNoBox();
        loansBothWays();
        CHECK.end();
    }

    private static void due(String call, long got, long want) {
        CHECK.due(call, got, want);
    }

    /** A's purse behind one try of box 0, with 7 coins in it. */
    private static int tried(int marks, int wants, int hits) {
        NextLife x = new NextLife();
        x.birth(0, marks, 100);
        x.box(0, wants, hits, 7);
        due("8 a try can always be", Check.act(x, "A0"), 1);
        due("8 coins are in one place", x.told(101) + x.told(12), 107);
        return x.told(101);
    }

    // "has as many as HITS of the MARKS that it WANTS, at least"

    private static void hitsThatAreEnough() {
        for (int had = 0; had <= 8; had++) {
            for (int hits = 0; hits <= 8; hits++) {
                due("8 has " + had + " of " + hits, tried((1 << had) - 1, 255, hits), had >= hits ? 107 : 100);
                due("8 wants " + had + ", " + hits, tried(255, (1 << had) - 1, hits), had >= hits ? 107 : 100);
            }
        }
        due("8 marks that it does not want", tried(240, 15, 1), 100);
        due("8 one of those", tried(248, 15, 1), 107);
        due("8 one, not two", tried(248, 15, 2), 100);
    }

    private static void noHitsAtAll() {
        due("8 no marks, no wants, no hits", tried(0, 0, 0), 107);
        due("8 no marks, no wants, one hit", tried(0, 0, 1), 100);
        due("8 no marks, no hits", tried(0, 255, 0), 107);
    }

    private static void moreHitsThanMarks() {
        due("8 all that it wants", tried(255, 255, 8), 107);
        due("8 one fewer", tried(254, 255, 8), 100);
        due("8 the first one fewer", tried(127, 255, 8), 100);
        due("8 more than it wants", tried(255, 127, 8), 100);
    }

    // "A BOX OPENS to a SOUL that LIVES"

    private static void whoDoesNotLiveOpensNothing() {
        NextLife x = new NextLife();
        for (int box = 0; box < 6; box++) {
            x.box(box, 0, 0, 5);
            due("11 nobody", x.opens(box), 0);
        }
        due("12 nobody", x.two(), 0);
        x.birth(0, 255, 0);
        due("11 one", x.opens(0), 1);
        Check.act(x, "A>B");
        due("11 the living one alone", x.opens(0), 2);
    }

    // "else nothing comes of it"

    private static void nothingComesOfATry() {
        NextLife x = new NextLife();
        x.birth(0, 1, 1);
        x.box(5, 2, 1, 999);
        due("8 a try", Check.act(x, "A5A5"), 2);
        due("8 coins stay", x.told(62), 999);
        due("8 purse stays", x.told(101), 1);
        due("8 marks stay", x.told(100), 1);
    }

    // "if it OPENS, its COINS go into the PURSE"

    private static void coinsAreTakenOnce() {
        NextLife x = new NextLife();
        x.birth(0, 1, 0);
        x.birth(1, 1, 0);
        for (int box = 0; box < 6; box++) {
            x.box(box, 1, 1, 1 << box);
        }
        due("8 twice", Check.act(x, "A0A0B0B1A1A2A3A4A5"), 9);
        due("8 its coins", x.told(101), 1 + 4 + 8 + 16 + 32);
        due("8 the other's", x.told(201), 2);
        for (int box = 0; box < 6; box++) {
            due("8 empty", x.told(10 * (1 + box) + 2), 0);
            due("8 wants stay", x.told(10 * (1 + box)), 1);
            due("8 hits stay", x.told(10 * (1 + box) + 1), 1);
            due("8 opens as before", x.opens(box), 3);
        }
        due("8 an empty box", Check.act(x, "B0"), 1);
        due("8 nothing in it", x.told(201), 2);
    }

    // "PURSES are 999 at most, what is above is lost"

    private static void overflow(int purse, int coins, int want) {
        NextLife x = new NextLife();
        x.birth(0, 0, purse);
        x.box(0, 0, 0, coins);
        Check.write(x, "A0");
        due("9 " + purse + " and " + coins, x.behind(0, 2), want);
        due("8 it can be", x.done(), 1);
        due("8 " + purse + " and " + coins, x.told(101), want);
        due("8 the box is empty", x.told(12), 0);
    }

    private static void pursesThatOverflowByTries() {
        overflow(0, 0, 0);
        overflow(0, 999, 999);
        overflow(1, 998, 999);
        overflow(1, 999, 999);
        overflow(500, 499, 999);
        overflow(500, 500, 999);
        overflow(999, 0, 999);
        overflow(999, 1, 999);
        overflow(999, 999, 999);
        overflow(998, 0, 998);
    }

    private static void pursesThatOverflowByLoans() {
        for (int coins = 1; coins <= 9; coins++) {
            for (int purse = 988; purse <= 999; purse++) {
                NextLife x = new NextLife();
                x.birth(0, 0, 100);
                x.birth(1, 0, purse);
                due("8 it can be", Check.act(x, "A=" + coins + "B"), 1);
                due("8 given", x.told(101), 100 - coins);
                due("8 " + purse + " and " + coins, x.told(201), Math.min(999, purse + coins));
                due("14 all of it is owed", x.owes(1, 0), coins);
            }
        }
    }

    // "has its MARKS but the least one of them"

    private static void theLeastMarkGoes() {
        for (int marks = 0; marks <= 255; marks++) {
            NextLife x = new NextLife();
            x.birth(0, marks, 0);
            Check.write(x, "A>H");
            int left = marks - Integer.lowestOneBit(marks);
            due("9 marks of " + marks, x.behind(7, 1), left);
            due("8 done", x.done(), 1);
            due("8 marks of " + marks, x.told(800), left);
        }
        NextLife x = new NextLife();
        x.birth(0, 255, 0);
        due("8 eight lives", Check.act(x, "A>BB>CC>DD>EE>FF>GG>H"), 7);
        due("8 one mark is left", x.told(800), 128);
        due("8 the ninth", Check.act(x, "H>A"), 1);
        due("8 none is left", x.told(100), 0);
        due("8 the tenth", Check.act(x, "A>B"), 1);
        due("8 none can go", x.told(200), 0);
    }

    // "half its PURSE (cut)"

    private static void halfThePurse() {
        for (int purse = 0; purse <= 999; purse++) {
            NextLife x = new NextLife();
            x.birth(7, 0, purse);
            due("8 done", Check.act(x, "H>A"), 1);
            due("8 half of " + purse, x.told(101), purse / 2);
        }
    }

    // "it dies, and comes back as that one, who LIVES then .. and WAS it"

    private static void whoDiesAndWhoLives() {
        for (int soul = 0; soul < 8; soul++) {
            for (int other = 0; other < 8; other++) {
                if (soul != other) {
                    dies(soul, other);
                }
            }
        }
    }

    private static void dies(int soul, int other) {
        NextLife x = new NextLife();
        x.birth(soul, 12, 31);
        due("8 dies", Check.act(x, (char) ('A' + soul) + ">" + (char) ('A' + other)), 1);
        due("8 who lives", x.told(1), 1 << other);
        due("8 was", x.told(100 * (1 + other) + 2), soul);
        due("8 marks", x.told(100 * (1 + other)), 8);
        due("8 purse", x.told(100 * (1 + other) + 1), 15);
        due("8 no marks of the dead one", x.told(100 * (1 + soul)), 0);
        due("8 no purse of the dead one", x.told(100 * (1 + soul) + 1), 0);
        due("8 who the dead one was", x.told(100 * (1 + soul) + 2), NONE);
    }

    // "what it OWES and is owed that one OWES and is owed then"

    private static void debtsMove() {
        for (int soul = 1; soul < 7; soul++) {
            NextLife x = new NextLife();
            x.birth(0, 0, 99);
            x.birth(soul, 0, 99);
            char letter = (char) ('A' + soul);
            due("8 loans", Check.act(x, "A=3" + letter + letter + "=5A" + letter + ">H"), 3);
            due("14 owes", x.owes(7, 0), 3);
            due("14 is owed", x.owes(0, 7), 5);
            due("14 the dead one owes nothing", x.owes(soul, 0), 0);
            due("14 the dead one is owed nothing", x.owes(0, soul), 0);
            due("14 nor each the other", x.owes(soul, 7) + x.owes(7, soul), 0);
            due("15 netted", x.netted(7), 10002);
            due("15 netted, dead", x.netted(soul), 10000);
            due("16 they still go round", x.rings(), 129);
        }
    }

    private static void debtsOfOthersStay() {
        NextLife x = new NextLife();
        for (int soul = 0; soul < 7; soul++) {
            x.birth(soul, 0, 99);
        }
        Check.act(x, "A=1BB=2CC=3DD=4EE=5FF=6GG=7A");
        Check.act(x, "D>H");
        int[][] owed = {{1, 0, 1}, {2, 1, 2}, {7, 2, 3}, {4, 7, 4}, {5, 4, 5}, {6, 5, 6}, {0, 6, 7}};
        int sum = 0;
        for (int[] row : owed) {
            due("14 " + row[0] + " owes " + row[1], x.owes(row[0], row[1]), row[2]);
        }
        for (int soul = 0; soul < 8; soul++) {
            for (int other = 0; other < 8; other++) {
                sum += soul == other ? 0 : x.owes(soul, other);
            }
        }
        due("14 nothing else is owed", sum, 28);
        due("16 without the dead one", x.rings(), 255 - 8);
    }

    private static void thereAndBack() {
        NextLife x = new NextLife();
        x.birth(0, 7, 999);
        due("8 there and back", Check.act(x, "A>BB>A"), 2);
        due("8 lives again", x.told(1), 1);
        due("8 was the other", x.told(102), 1);
        due("8 who was it", x.told(202), 0);
        due("8 two marks fewer", x.told(100), 4);
        due("8 a quarter", x.told(101), 249);
    }

    /** Each act does what it says and nothing else: souls and boxes have the same numbers. */
    private static void otherActsOpenNoBox() {
        NextLife x = new NextLife();
        x.birth(0, 0, 100);
        x.birth(1, 0, 100);
        for (int box = 0; box < 6; box++) {
            x.box(box, 0, 0, 10);
        }
        due("8 a loan, a year, a death", Check.act(x, "A=1BB=2A.A>CC=3B"), 5);
        due("8 no box is opened", x.told(12) + x.told(22) + x.told(32) + x.told(42), 40);
        due("8 purse", x.told(301), (100 - 1 + 2) / 2 - 3);
        due("8 other purse", x.told(201), 100 + 1 - 2 + 3);
        due("10 no tries", x.then(2), 0);
        Check.act(x, "C0");
        due("8 a try ends no year", x.told(2), 1);
        due("8 nobody dies of it", x.told(1), 6);
        due("14 nothing is owed for it", x.owes(2, 0) + x.owes(0, 2), 0);
    }

    // "who OWES it so many more"

    private static void loansBothWays() {
        NextLife x = new NextLife();
        x.birth(0, 0, 9);
        x.birth(7, 0, 0);
        due("8 there and back", Check.act(x, "A=9HH=9AA=9HH=1A"), 4);
        due("14 one way", x.owes(7, 0), 18);
        due("14 the other way", x.owes(0, 7), 10);
        due("8 purse", x.told(101), 1);
        due("8 purse", x.told(801), 8);
        due("15 netted", x.netted(0), 10008);
        due("15 netted", x.netted(7), 9992);
    }
}
