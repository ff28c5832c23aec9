/** The edges of promises 21 to 26: seen, forget, laws, next, chance, book. */
public final class LawsEdgesTest {
    private static final Check CHECK = new Check();
    private static final Edges EDGES = new Edges(CHECK);
    private static final int NONE = NextLife.NONE, OUTSIDE = NextLife.OUTSIDE;
    private static final long LOST_UNKNOWN = NextLife.LOST + NextLife.UNKNOWN;
    private static final long LOST_OUTSIDE = NextLife.LOST + NextLife.OUTSIDE;

    public static void main(String[] args) {
        seenOutside();
        eightSights();
        forgotten();
        lawsThatAreNot();
        lawsFromFirstToLast();
        noLawFits();
        fewLawsFit();
        sightsAtTheirEdges();
        nextOutside();
        nextOfNobody();
        nextOfNoLaw();
        nextOfNoMarks();
        nextOfSeveral();
        chanceUnknown();
        chanceOutside();
        chanceOfNoLife();
        chanceOfOneMark();
        chanceThatIsSureOrNone();
        chanceOfAllMarks();
        bookOutside();
        booksAtTheirEdges();
        booksOfOneDraw();
        booksOfTwoDraws();
        booksOfLoansThatCanNotBe();
        booksOfDeathsThatCanNotBe();
        booksAreNotDone();
        booksOfFullPurses();
        booksAtTheMostThatIsOwed();
        CHECK.end();
    }

    private static void due(String call, long got, long want) {
        CHECK.due(call, got, want);
    }

    // seen: "OUTSIDE: MARKS 0 to 255; FULL."

    private static void seenOutside() {
        for (int marks : Edges.outside(0, 255)) {
            EDGES.refusedAlways("21 marks " + marks, OUTSIDE, x -> x.seen(marks, true));
            EDGES.refusedAlways("21 marks " + marks, OUTSIDE, x -> x.seen(marks, false));
        }
    }

    // "SIGHTS, 8 at most"

    private static void eightSights() {
        NextLife x = new NextLife();
        for (int i = 1; i <= 8; i++) {
            due("21 how many", x.seen(i % 2 == 0 ? 0 : 255, i % 2 == 1), i);
            due("29 how many", x.told(3), i);
        }
        due("21 the ninth", x.seen(0, true), NextLife.FULL);
        due("23 laws as before", x.laws(-1), 1024);
        for (int marks = 0; marks <= 255; marks += 85) {
            int told = marks;
            EDGES.refused(Edges.BRIMMING, "21 full", NextLife.FULL, y -> y.seen(told, true));
            EDGES.refused(Edges.BRIMMING, "21 full", NextLife.FULL, y -> y.seen(told, false));
        }
        EDGES.refused(Edges.BRIMMING, "21 outside ahead of full", OUTSIDE, y -> y.seen(256, true));
    }

    // forget: "SIGHTS go: how many there were."

    private static void forgotten() {
        NextLife x = new NextLife();
        due("22 none", x.forget(), 0);
        x.seen(0, true);
        due("22 one", x.forget(), 1);
        due("22 none again", x.forget(), 0);
        due("22 all laws fit again", x.laws(-1), 1024);
        for (int i = 0; i < 8; i++) {
            x.seen(1, true);
        }
        due("22 eight", x.forget(), 8);
        due("22 none are left", x.told(3), 0);
        due("22 room again", x.seen(1, false), 1);
        due("22 what had opened is forgotten", x.laws(-1), 1024 - 128);
        NextLife y = Edges.made(Edges.BRIMMING);
        due("22 eight", y.forget(), 8);
        due("22 signs stay", y.told(0), 60);
        due("22 years stay", y.told(2), 99);
    }

    // laws: "how many (i = -1), the i-th; NONE."

    private static void lawsThatAreNot() {
        for (int i : Edges.outside(-1, 1023)) {
            due("23 law " + i, new NextLife().laws(i), NONE);
            due("23 law " + i, Edges.made(Edges.BANK).laws(i), NONE);
            due("23 law " + i, Edges.made(Edges.BRIMMING).laws(i), NONE);
        }
        due("23 law -2", new NextLife().laws(-2), NONE);
        due("23 law 1024", new NextLife().laws(1024), NONE);
    }

    // "WANTS (1 to 255), and HITS from 1 to as many as these MARKS are"; "rising"

    private static void lawsFromFirstToLast() {
        int i = 0;
        NextLife x = new NextLife();
        for (int wants = 1; wants <= 255; wants++) {
            for (int hits = 1; hits <= Integer.bitCount(wants); hits++) {
                x = i % 500 == 0 ? new NextLife() : x;
                due("23 law " + i, x.laws(i), 10 * wants + hits);
                i++;
            }
        }
        due("23 how many", new NextLife().laws(-1), i);
        due("23 how many", i, 1024);
    }

    private static void noLawFits() {
        for (boolean opened : new boolean[] {true, false}) {
            NextLife x = new NextLife();
            // no law opens to no marks, and each law opens to all
            x.seen(opened ? 0 : 255, opened);
            due("23 how many", x.laws(-1), 0);
            due("23 the first", x.laws(0), NONE);
            due("23 the last", x.laws(1023), NONE);
        }
        NextLife y = new NextLife();
        y.seen(1, true);
        y.seen(1, false);
        due("23 it did and it did not", y.laws(-1), 0);
    }

    private static void fewLawsFit() {
        NextLife x = new NextLife();
        x.seen(255, true);
        for (int mark = 0; mark < 7; mark++) {
            x.seen(255 - (1 << mark), false);
        }
        // all but the last mark are told to be wanted, all of them
        due("23 two fit", x.laws(-1), 2);
        due("23 without the last mark", x.laws(0), 1277);
        due("23 with it", x.laws(1), 2558);
        due("23 no third", x.laws(2), NONE);
        NextLife y = new NextLife();
        y.seen(128, true);
        y.seen(127, false);
        due("23 the last mark alone", y.laws(-1), 1);
        due("23 it and no other", y.laws(0), 1281);
        due("23 no second", y.laws(1), NONE);
    }

    private static void sightsAtTheirEdges() {
        NextLife x = new NextLife();
        due("21 least marks", x.seen(0, false), 1);
        due("21 most marks", x.seen(255, true), 2);
        due("23 all as before", x.laws(-1), 1024);
        due("21 one mark", x.seen(128, true), 3);
        // of the wants with the last mark, one hit
        due("23 how many", x.laws(-1), 128);
        due("23 first", x.laws(0), 1281);
        due("23 last", x.laws(127), 2551);
        due("23 behind it", x.laws(128), NONE);
    }

    // next: "the SOUL (what = 0), how many (1); NONE: no LAW fits, or nobody LIVES. OUTSIDE."

    private static void nextOutside() {
        for (int what : Edges.outside(0, 1)) {
            EDGES.refusedAlways("24 what " + what, OUTSIDE, x -> x.next(what));
        }
        NextLife x = new NextLife();
        x.birth(0, 0, 0);
        x.seen(0, true);
        due("24 outside, though no law fits", x.next(2), OUTSIDE);
    }

    private static void nextOfNobody() {
        NextLife x = new NextLife();
        due("24 nobody lives", x.next(0), NONE);
        due("24 nobody lives", x.next(1), NONE);
        for (int soul = 0; soul < 8; soul++) {
            NextLife y = new NextLife();
            y.birth(soul, 0, 0);
            due("24 the only one", y.next(0), soul);
            due("24 nothing is learned", y.next(1), 1024);
        }
    }

    private static void nextOfNoLaw() {
        NextLife x = new NextLife();
        x.birth(3, 15, 0);
        x.seen(0, true);
        due("24 no law", x.next(0), NONE);
        due("24 no law", x.next(1), NONE);
        x.forget();
        due("24 laws again", x.next(0), 3);
        x.forget();
        x.seen(128, true);
        x.seen(127, false);
        due("24 one law", x.laws(-1), 1);
        due("24 one law is enough", x.next(0), 3);
        due("24 it is left", x.next(1), 1);
        due("24 and again", x.next(1), 1);
    }

    /** Who has none of the marks opens nothing by any law, however many hits it asks for. */
    private static void nextOfNoMarks() {
        NextLife x = new NextLife();
        x.birth(0, 0, 0);
        x.seen(15, true);
        x.seen(1, false);
        x.seen(6, false);
        int laws = x.laws(-1);
        due("24 the only one", x.next(0), 0);
        due("24 all are left", x.next(1), laws);
        due("24 all are left", x.next(1), laws);
    }

    // "fewest LAWS are left at the most: the least; how many"

    private static void nextOfSeveral() {
        NextLife x = new NextLife();
        for (int soul = 7; soul >= 0; soul--) {
            x.birth(soul, 15, 0);
            due("24 of several the least", x.next(0), soul);
        }
        x.birth(0, 7, 0);
        for (int soul = 1; soul < 8; soul++) {
            x.birth(soul, 0, 0);
        }
        due("24 left at the most", x.next(1), 640);
        due("24 asked again", x.next(1), 640);
        // no marks and all marks tell as little as each other
        NextLife y = new NextLife();
        y.birth(4, 255, 0);
        y.birth(5, 0, 0);
        due("24 of two that tell nothing the least", y.next(0), 4);
        due("24 all are left", y.next(1), 1024);
        NextLife z = new NextLife();
        z.seen(3, true);
        z.seen(252, false);
        z.seen(1, false);
        z.birth(0, 1, 0);
        z.birth(7, 2, 0);
        // of the 8 laws that fit none opens to the first mark, and one to the second
        due("24 who tells more", z.next(0), 7);
        due("24 left at the most", z.next(1), 7);
    }

    // chance: "UNKNOWN: both (a SOUL that does not LIVE, too); OUTSIDE."; "refused with LOST and the refusal"

    private static void chanceUnknown() {
        for (int soul : Edges.outside(0, 7)) {
            EDGES.refusedAlways("25 soul " + soul, LOST_UNKNOWN, x -> x.chance(soul, 0, 1, 5, 0));
            EDGES.refusedAlways("25 soul ahead of the rest", LOST_UNKNOWN, x -> x.chance(soul, 6, 3, 11, 2));
        }
        for (int box : Edges.outside(0, 5)) {
            EDGES.refusedAlways("25 box " + box, LOST_UNKNOWN, x -> x.chance(0, box, 1, 5, 1));
            EDGES.refusedAlways("25 box ahead of the rest", LOST_UNKNOWN, x -> x.chance(7, box, -1, -1, -1));
        }
        for (int soul = 0; soul < 8; soul++) {
            int one = soul;
            EDGES.refused(Edges.NEW, "25 nobody lives", LOST_UNKNOWN, x -> x.chance(one, 0, 0, 0, 0));
            EDGES.refused(Edges.NEW, "25 ahead of part", LOST_UNKNOWN, x -> x.chance(one, 0, 0, 0, 2));
        }
        for (int soul = 2; soul < 7; soul++) {
            int one = soul;
            EDGES.refused(Edges.BANK, "25 does not live", LOST_UNKNOWN, x -> x.chance(one, 5, 2, 10, 1));
        }
    }

    // "n next lives (0 to 2)", "t tenths (0 to 10)", "part: 0 the upper, 1 the lower number"

    private static void chanceOutside() {
        for (int n : Edges.outside(0, 2)) {
            EDGES.refusedWithSouls("25 n " + n, LOST_OUTSIDE, x -> x.chance(0, 0, n, 5, 0));
        }
        for (int t : Edges.outside(0, 10)) {
            EDGES.refusedWithSouls("25 t " + t, LOST_OUTSIDE, x -> x.chance(1, 1, 1, t, 1));
            // though no life comes in which it would matter
            EDGES.refusedWithSouls("25 t " + t, LOST_OUTSIDE, x -> x.chance(1, 1, 0, t, 1));
        }
        for (int part : Edges.outside(0, 1)) {
            EDGES.refusedWithSouls("25 part " + part, LOST_OUTSIDE, x -> x.chance(7, 5, 2, 10, part));
        }
        EDGES.refusedWithSouls("25 all three", LOST_OUTSIDE, x -> x.chance(7, 5, 3, 11, 2));
    }

    private static void chance(NextLife x, int soul, int box, int n, int t, String due) {
        String got = x.chance(soul, box, n, t, 0) + "/" + x.chance(soul, box, n, t, 1);
        CHECK.isTrue("25 " + n + " lives, " + t + " tenths: " + got + ", due is " + due, got.equals(due));
    }

    private static NextLife bank(int marks, int wants, int hits) {
        NextLife x = new NextLife();
        x.birth(7, marks, 0);
        x.box(5, wants, hits, 0);
        return x;
    }

    private static void chanceOfNoLife() {
        for (int t = 0; t <= 10; t++) {
            chance(bank(255, 255, 8), 7, 5, 0, t, "1/1");
            chance(bank(127, 255, 8), 7, 5, 0, t, "0/1");
            chance(bank(0, 0, 0), 7, 5, 0, t, "1/1");
            chance(bank(0, 0, 1), 7, 5, 0, t, "0/1");
        }
    }

    private static void chanceOfOneMark() {
        String[] once = {"0/1", "1/10", "1/5", "3/10", "2/5", "1/2", "3/5", "7/10", "4/5", "9/10", "1/1"};
        String[] twice = {"0/1", "1/100", "1/25", "9/100", "4/25", "1/4", "9/25", "49/100", "16/25", "81/100",
            "1/1"};
        for (int t = 0; t <= 10; t++) {
            chance(bank(255, 128, 1), 7, 5, 1, t, once[t]);
            chance(bank(128, 255, 1), 7, 5, 2, t, twice[t]);
        }
    }

    // "(LIVES it or not)", and fractions whose upper number is 0 or that are 1

    private static void chanceThatIsSureOrNone() {
        for (int n = 0; n <= 2; n++) {
            for (int t = 0; t <= 10; t++) {
                chance(bank(255, 255, 0), 7, 5, n, t, "1/1");
                chance(bank(0, 255, 0), 7, 5, n, t, "1/1");
                chance(bank(0, 255, 1), 7, 5, n, t, "0/1");
                chance(bank(255, 127, 8), 7, 5, n, t, "0/1");
            }
            chance(bank(255, 255, 8), 7, 5, n, 10, "1/1");
            chance(bank(255, 255, 1), 7, 5, n, 0, n == 0 ? "1/1" : "0/1");
        }
    }

    private static void chanceOfAllMarks() {
        chance(bank(255, 255, 8), 7, 5, 1, 1, "1/100000000");
        chance(bank(255, 255, 8), 7, 5, 2, 1, "1/10000000000000000");
        chance(bank(255, 255, 8), 7, 5, 2, 9, "1853020188851841/10000000000000000");
        chance(bank(255, 255, 1), 7, 5, 2, 1, "772553055720799/10000000000000000");
        chance(bank(255, 255, 1), 7, 5, 1, 5, "255/256");
        chance(bank(255, 255, 4), 7, 5, 1, 5, "163/256");
        chance(bank(255, 255, 8), 7, 5, 2, 5, "1/65536");
    }

    // book: "a seed (0 to 9999) of m ACTS (1 to 99)"; "how many (what = 0), PURSES (1), COINS (2). OUTSIDE."

    private static void bookOutside() {
        for (int seed : Edges.outside(0, 9999)) {
            EDGES.refusedAlways("26 seed " + seed, OUTSIDE, x -> x.book(seed, 1, 0));
        }
        for (int m : Edges.outside(1, 99)) {
            EDGES.refusedAlways("26 m " + m, OUTSIDE, x -> x.book(0, m, 1));
            EDGES.refusedAlways("26 m " + m, OUTSIDE, x -> x.book(9999, m, 2));
        }
        for (int what : Edges.outside(0, 2)) {
            EDGES.refusedAlways("26 what " + what, OUTSIDE, x -> x.book(0, 1, what));
            EDGES.refusedAlways("26 what " + what, OUTSIDE, x -> x.book(9999, 99, what));
        }
        EDGES.refusedAlways("26 all three", OUTSIDE, x -> x.book(-1, 0, 3));
    }

    private static void book(NextLife x, int seed, int m, int lives, int purses, int coins) {
        due("26 who live, " + seed + " " + m, x.book(seed, m, 0), lives);
        due("26 purses, " + seed + " " + m, x.book(seed, m, 1), purses);
        due("26 coins, " + seed + " " + m, x.book(seed, m, 2), coins);
    }

    private static void booksAtTheirEdges() {
        NextLife x = new NextLife();
        book(x, 0, 1, 0, 0, 0);
        book(x, 0, 99, 0, 0, 0);
        book(x, 9999, 1, 0, 0, 0);
        book(x, 9999, 99, 0, 0, 0);
        for (int box = 0; box < 6; box++) {
            x.box(box, 0, 0, 999);
        }
        book(x, 9999, 99, 0, 0, 5994);
        for (int soul = 0; soul < 8; soul++) {
            x.birth(soul, 0, 0);
        }
        // 74: B would lend to itself; 5624: the year ends; 28652: F tries box 3
        book(x, 0, 1, 8, 0, 5994);
        book(x, 0, 2, 8, 0, 5994);
        book(x, 0, 3, 8, 999, 4995);
        // 749999 is 11 times 65537 and 29092: E tries box 4
        book(x, 9999, 1, 8, 999, 4995);
        x.box(4, 1, 1, 999);
        book(x, 9999, 1, 8, 0, 5994);
    }

    // "by x left over by 8: 0 the YEAR ends, 1 .. dies, 2, 3 it lends, else it tries"

    private static void booksOfOneDraw() {
        // seed, purses, coins: C, D, E and F have full purses, boxes hold 1, 2, 4, 8, 16, 32 coins. 224 ends the
        // year; by 674 E lends C 2 coins and by 299 F lends E 1, which are lost; all others are tries
        int[][] want = {{2, 3996, 63}, {8, 3994, 63}, {3, 3995, 63}, {1, 3996, 59}, {7, 3996, 55}, {31, 3996, 61},
            {38, 3996, 55}, {49, 3996, 47}, {9, 3996, 31}};
        for (int[] row : want) {
            NextLife x = new NextLife();
            for (int soul = 2; soul <= 5; soul++) {
                x.birth(soul, 0, 999);
            }
            for (int box = 0; box < 6; box++) {
                x.box(box, 0, 0, 1 << box);
            }
            book(x, row[0], 1, 4, row[1], row[2]);
        }
    }

    private static void booksOfTwoDraws() {
        // 674: E would lend C; 50624: the year ends, though A and H live
        NextLife x = new NextLife();
        x.birth(0, 0, 9);
        x.birth(7, 0, 999);
        book(x, 8, 1, 2, 1008, 0);
        book(x, 8, 2, 2, 1008, 0);
    }

    // "each if that can be"

    private static void booksOfLoansThatCanNotBe() {
        // 4274: G lends C 9 coins; 4874: B lends E 1 coin, as 9 left over by 9 is 0; 12299 is 24 times 512 and
        // 11; 16874 is 33 times 512 less 22; 65699, by seed 875, is above 65537 by 162
        int[][] loans = {{56, 6, 2, 9}, {64, 1, 4, 1}, {8, 4, 2, 2}, {3, 5, 4, 1}, {163, 1, 0, 7}, {224, 5, 7, 6},
            {875, 4, 2, 1}};
        for (int[] loan : loans) {
            NextLife x = new NextLife();
            x.birth(loan[2], 0, 999);
            book(x, loan[0], 1, 1, 999, 0);
            x.birth(loan[1], 0, loan[3] - 1);
            book(x, loan[0], 1, 2, 998 + loan[3], 0);
            x.birth(loan[1], 0, loan[3]);
            // what is given is lost, as the other purse is full
            book(x, loan[0], 1, 2, 999, 0);
            x.birth(loan[2], 0, 0);
            book(x, loan[0], 1, 2, loan[3], 0);
        }
    }

    private static void booksOfDeathsThatCanNotBe() {
        // 449: A dies and comes back as H
        NextLife x = new NextLife();
        book(x, 5, 1, 0, 0, 0);
        x.birth(0, 0, 999);
        book(x, 5, 1, 1, 499, 0);
        x.birth(7, 0, 1);
        book(x, 5, 1, 2, 1000, 0);
        Check.act(x, "A>B");
        book(x, 5, 1, 2, 500, 0);
    }

    // "Nothing is DONE in fact."

    private static void booksAreNotDone() {
        for (int state = 0; state < Edges.STATES; state++) {
            NextLife x = Edges.made(state);
            for (int what = 0; what <= 2; what++) {
                due("26 the same twice", x.book(77, 99, what), x.book(77, 99, what));
            }
            CHECK.isTrue("26 nothing has changed", Edges.allSeen(x).equals(Edges.allSeen(Edges.made(state))));
        }
        // the pad is not asked: a fault or a bad act on it hinders no book
        for (int what = 0; what <= 2; what++) {
            int want = Edges.made(Edges.BANK).book(5, 40, what);
            due("26 with a fault", Edges.made(Edges.FAULTY).book(5, 40, what), want);
            due("26 with a bad act", Edges.made(Edges.BARRED).book(5, 40, what), want);
        }
    }

    private static void booksOfFullPurses() {
        // every try opens and all is lost, every loan is lost too
        NextLife x = new NextLife();
        for (int soul = 0; soul < 8; soul++) {
            x.birth(soul, 0, 999);
        }
        for (int box = 0; box < 6; box++) {
            x.box(box, 0, 0, 999);
        }
        for (int m = 1; m <= 99; m++) {
            CHECK.isTrue("26 no purse above 999", x.book(m, m, 1) <= 8 * 999);
            due("26 nobody can come back", x.book(m, m, 0), 8);
            due("26 boxes are full or empty", x.book(m, m, 2) % 999, 0);
        }
    }

    private static void booksAtTheMostThatIsOwed() {
        NextLife x = new NextLife();
        x.birth(0, 0, 990);
        x.birth(1, 0, 0);
        x.box(0, 0, 0, 999);
        x.box(1, 0, 0, 999);
        // without a call to wipe, as calls are few
        String loans = "A=9B".repeat(110) + "A0B1A=8B";
        for (int i = 0; i < loans.length(); i++) {
            x.say(loans.charAt(i));
            if (i % 60 == 59 || i == loans.length() - 1) {
                x.done();
            }
        }
        due("14 one less than the most", x.owes(1, 0), 998);
        // 720974 is 11 times 65537 and 67: A lends B 1 coin, which is lost; 655949 is 10 times 65537 and 579: 2
        // coins, which would be too many
        book(x, 9612, 1, 2, 1989, 0);
        book(x, 8745, 1, 2, 1990, 0);
        due("8 the most", Check.act(x, "A=1B"), 1);
        book(x, 9612, 1, 2, 1989, 0);
    }
}
