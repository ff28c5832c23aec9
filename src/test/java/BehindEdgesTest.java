/** The edges of promises 9 to 16: behind, then, opens, two, chain, owes, netted, rings. */
public final class BehindEdgesTest {
    private static final Check CHECK = new Check();
    private static final Edges EDGES = new Edges(CHECK);
    private static final int NONE = NextLife.NONE, UNKNOWN = NextLife.UNKNOWN, OUTSIDE = NextLife.OUTSIDE;
    private static final int NO = NextLife.NO;

    public static void main(String[] args) {
        behindUnknown();
        behindOutside();
        behindNo();
        behindAnEmptyPad();
        behindWhoDoesNotLive();
        behindIsNotDone();
        thenOutside();
        thenNo();
        thenWhoLive();
        thenTheYear();
        thenTries();
        thenTheOtherTry();
        opensUnknown();
        opensToNoneAndAll();
        opensToTwo();
        chainUnknownAndOutside();
        chainOfNone();
        chainOfAll();
        chainThatGoesRound();
        owesUnknown();
        owesAtFirstAndAtMost();
        nettedUnknown();
        ringsOfNone();
        ringsOfTwo();
        ringsWithEndsThatHang();
        ringsOfAll();
        CHECK.end();
    }

    private static void due(String call, long got, long want) {
        CHECK.due(call, got, want);
    }

    private static NextLife souls(int... marks) {
        NextLife x = new NextLife();
        for (int soul = 0; soul < marks.length; soul++) {
            x.birth(soul, marks[soul], 50);
        }
        return x;
    }

    // behind: "UNKNOWN: the number; OUTSIDE; NO, as of done()"

    private static void behindUnknown() {
        for (int soul : Edges.outside(0, 7)) {
            for (int what = 0; what <= 3; what++) {
                int asked = what;
                EDGES.refusedAlways("9 soul " + soul, UNKNOWN, x -> x.behind(soul, asked));
            }
            EDGES.refusedAlways("9 soul ahead of what", UNKNOWN, x -> x.behind(soul, 4));
            EDGES.refusedAlways("9 soul ahead of what", UNKNOWN, x -> x.behind(soul, Edges.LEAST));
        }
    }

    private static void behindOutside() {
        for (int what : Edges.outside(0, 3)) {
            // ahead of NO too, where there is a fault or an act that can not be
            EDGES.refusedAlways("9 what " + what, OUTSIDE, x -> x.behind(0, what));
            EDGES.refusedAlways("9 what " + what, OUTSIDE, x -> x.behind(7, what));
        }
    }

    private static void behindNo() {
        for (int soul = 0; soul < 8; soul++) {
            for (int what = 0; what <= 3; what++) {
                int one = soul;
                int asked = what;
                EDGES.refused(Edges.FAULTY, "9 a fault", NO, x -> x.behind(one, asked));
                EDGES.refused(Edges.BARRED, "9 a bad act", NO, x -> x.behind(one, asked));
            }
        }
    }

    private static void behindAnEmptyPad() {
        NextLife x = souls(1, 255);
        Check.act(x, "A>H");
        int[][] want = {{0, 0, 0, NONE}, {1, 255, 50, NONE}, {0, 0, 0, NONE}, {0, 0, 0, NONE},
            {0, 0, 0, NONE}, {0, 0, 0, NONE}, {0, 0, 0, NONE}, {1, 0, 25, 0}};
        for (int soul = 0; soul < 8; soul++) {
            for (int what = 0; what <= 3; what++) {
                due("9 as it is", x.behind(soul, what), want[soul][what]);
            }
        }
    }

    // "(MARKS, PURSE of who does not LIVE: 0.)"

    private static void behindWhoDoesNotLive() {
        NextLife x = souls(255);
        Check.write(x, "A>BB>C");
        int[][] want = {{0, 0, 0, NONE}, {0, 0, 0, 0}, {1, 252, 12, 1}};
        for (int soul = 0; soul < 3; soul++) {
            for (int what = 0; what <= 3; what++) {
                due("9 soul " + soul + ", " + what, x.behind(soul, what), want[soul][what]);
            }
        }
    }

    // "BEHIND, likewise, not being DONE"

    private static void behindIsNotDone() {
        NextLife x = Edges.made(Edges.BANK);
        due("9 who comes back", x.behind(3, 0), 1);
        due("10 who live", x.then(0), 11);
        due("9 nobody has", x.told(1), 131);
        CHECK.isTrue("9 nothing has changed", Edges.allSeen(x).equals(Edges.allSeen(Edges.made(Edges.BANK))));
    }

    // then: "OUTSIDE; NO, likewise"

    private static void thenOutside() {
        for (int what : Edges.outside(0, 3)) {
            EDGES.refusedAlways("10 what " + what, OUTSIDE, x -> x.then(what));
        }
    }

    private static void thenNo() {
        for (int what = 0; what <= 3; what++) {
            int asked = what;
            EDGES.refused(Edges.FAULTY, "10 a fault", NO, x -> x.then(asked));
            EDGES.refused(Edges.BARRED, "10 a bad act", NO, x -> x.then(asked));
        }
    }

    private static void thenWhoLive() {
        due("10 nobody", new NextLife().then(0), 0);
        NextLife x = souls(0, 0, 0, 0, 0, 0, 0, 0);
        due("10 all", x.then(0), 255);
        NextLife y = souls(0);
        Check.write(y, "A>H");
        due("10 the last one", y.then(0), 128);
    }

    private static void thenTheYear() {
        NextLife x = new NextLife();
        due("10 year 0", x.then(1), 0);
        Check.write(x, ".".repeat(60));
        due("10 year 60", x.then(1), 60);
        due("10 it is not yet", x.told(2), 0);
        x.done();
        Check.write(x, ".".repeat(39));
        due("10 year 99", x.then(1), 99);
        x.say('.');
        due("10 no year 100", x.then(1), NO);
    }

    // "how many tries a BOX OPENED to"

    private static void thenTries() {
        NextLife x = souls(1);
        x.box(0, 1, 1, 0);
        Check.write(x, "A0".repeat(30));
        due("10 thirty, of an empty box too", x.then(2), 30);
        due("10 no other one", x.then(3), NONE);
        Check.write(x, "A1".repeat(30));
        due("10 none", x.then(2), 0);
        due("10 the first", x.then(3), 0);
        Check.write(x, "");
        due("10 no try", x.then(2), 0);
        due("10 no other one", x.then(3), NONE);
    }

    // "the first ACT that is another try (NONE)"

    private static void thenTheOtherTry() {
        NextLife x = souls(1);
        x.box(0, 1, 1, 5);
        Check.write(x, "A0".repeat(29) + "A1");
        due("10 the last", x.then(3), 29);
        due("10 ahead of it", x.then(2), 29);
        Check.write(x, "..A>B");
        due("10 acts that are no tries", x.then(3), NONE);
        Check.write(x, ".A0.A1A2A>BB0");
        due("10 the first of three, among all acts", x.then(3), 3);
        // B has no mark left
        Check.write(x, "A0A>BB0");
        due("10 as it is by then", x.then(3), 2);
        due("10 as it is by then", x.then(2), 1);
    }

    // opens: "OPENS, as bits. UNKNOWN."

    private static void opensUnknown() {
        for (int box : Edges.outside(0, 5)) {
            EDGES.refusedAlways("11 box " + box, UNKNOWN, x -> x.opens(box));
        }
    }

    private static void opensToNoneAndAll() {
        NextLife x = souls(0, 1, 3, 7, 15, 31, 63, 127);
        for (int hits = 0; hits <= 8; hits++) {
            x.box(0, 255, hits, 0);
            x.box(5, 255, hits, 999);
            due("11 box 0, hits " + hits, x.opens(0), 255 >> hits << hits);
            due("11 box 5, hits " + hits, x.opens(5), 255 >> hits << hits);
        }
        due("11 hits 8 of eight", x.opens(5), 0);
        x.birth(7, 255, 0);
        due("11 hits 8 of eight", x.opens(5), 128);
    }

    // two: "BOXES that OPEN to two or more"

    private static void opensToTwo() {
        NextLife x = souls(3, 1);
        for (int box = 0; box < 6; box++) {
            x.box(box, 3, 2, 0);
            due("12 to one alone", x.two(), 0);
        }
        for (int box = 0; box < 6; box++) {
            x.box(box, 3, 1, 0);
            due("12 to two", x.two(), (2 << box) - 1);
        }
        Check.act(x, "B>C");
        due("12 one has no mark left", x.two(), 0);
        x.birth(3, 2, 0);
        due("12 two again", x.two(), 63);
        x.birth(4, 2, 0);
        due("12 three", x.two(), 63);
    }

    // chain: "how many (what = 0), the last one (1; NONE). UNKNOWN: the number; OUTSIDE."

    private static void chainUnknownAndOutside() {
        for (int soul : Edges.outside(0, 7)) {
            EDGES.refusedAlways("13 soul " + soul, UNKNOWN, x -> x.chain(soul, 0));
            EDGES.refusedAlways("13 soul " + soul, UNKNOWN, x -> x.chain(soul, 1));
            EDGES.refusedAlways("13 soul ahead of what", UNKNOWN, x -> x.chain(soul, 2));
        }
        for (int what : Edges.outside(0, 1)) {
            EDGES.refusedAlways("13 what " + what, OUTSIDE, x -> x.chain(0, what));
            EDGES.refusedAlways("13 what " + what, OUTSIDE, x -> x.chain(7, what));
        }
    }

    private static void chain(NextLife x, int soul, int many, int last) {
        due("13 others of " + soul, x.chain(soul, 0), many);
        due("13 last of " + soul, x.chain(soul, 1), last);
    }

    private static void chainOfNone() {
        NextLife x = souls(0);
        for (int soul = 0; soul < 8; soul++) {
            chain(x, soul, 0, NONE);
        }
    }

    private static void chainOfAll() {
        NextLife x = souls(0);
        Check.act(x, "A>BB>CC>DD>EE>FF>GG>H");
        chain(x, 0, 0, NONE);
        for (int soul = 1; soul < 8; soul++) {
            chain(x, soul, soul, 0);
        }
        x.birth(3, 0, 0);
        chain(x, 7, 4, 3);
        chain(x, 3, 0, NONE);
        chain(x, 2, 2, 0);
    }

    // "each once"

    private static void chainThatGoesRound() {
        NextLife x = souls(0);
        Check.act(x, "A>BB>A");
        chain(x, 0, 1, 1);
        chain(x, 1, 1, 0);
        NextLife y = souls(0);
        Check.act(y, "A>BB>CC>DD>EE>FF>GG>HH>A");
        for (int soul = 0; soul < 8; soul++) {
            chain(y, soul, 7, (soul + 1) % 8);
        }
        NextLife z = souls(0);
        Check.act(z, "A>BB>CC>BB>H");
        chain(z, 7, 2, 2);
        chain(z, 1, 1, 2);
        chain(z, 2, 1, 1);
        chain(z, 0, 0, NONE);
    }

    // owes: "UNKNOWN: the numbers, both one."

    private static void owesUnknown() {
        for (int soul : Edges.outside(0, 7)) {
            EDGES.refusedAlways("14 soul " + soul, UNKNOWN, x -> x.owes(soul, 0));
            EDGES.refusedAlways("14 other " + soul, UNKNOWN, x -> x.owes(7, soul));
            EDGES.refusedAlways("14 both " + soul, UNKNOWN, x -> x.owes(soul, soul));
        }
        for (int soul = 0; soul < 8; soul++) {
            int one = soul;
            EDGES.refusedAlways("14 both one " + soul, UNKNOWN, x -> x.owes(one, one));
        }
    }

    private static void owesAtFirstAndAtMost() {
        NextLife x = new NextLife();
        due("14 who do not live", x.owes(0, 7), 0);
        due("14 who do not live", x.owes(7, 0), 0);
        NextLife y = souls(0, 0, 0, 0, 0, 0, 0, 0);
        Check.act(y, "A=1HH=2A");
        due("14 last owes first", y.owes(7, 0), 1);
        due("14 first owes last", y.owes(0, 7), 2);
        due("14 nobody else", y.owes(6, 7) + y.owes(7, 6) + y.owes(1, 0) + y.owes(0, 1), 0);
    }

    // netted: "UNKNOWN: the number."

    private static void nettedUnknown() {
        for (int soul : Edges.outside(0, 7)) {
            EDGES.refusedAlways("15 soul " + soul, UNKNOWN, x -> x.netted(soul));
        }
        NextLife x = souls(0, 0, 0, 0, 0, 0, 0, 0);
        Check.act(x, "A=9HB=9HC=9HD=9HE=9HF=9HG=9H");
        due("15 owes all", x.netted(7), 9937);
        due("15 is owed", x.netted(0), 10009);
        Check.act(x, "H=9AH=9BH=9CH=9DH=9EH=9FH=9G");
        for (int soul = 0; soul < 8; soul++) {
            due("15 even", x.netted(soul), 10000);
        }
        Check.act(x, "H=9AH=9BH=9CH=9DH=1EH=1FH=1G");
        due("15 is owed by all", x.netted(7), 10039);
    }

    // rings: "SOULS that OWE somebody, who OWES somebody, .. , who OWES them"

    private static void ringsOfNone() {
        due("16 nobody lives", new NextLife().rings(), 0);
        NextLife x = souls(0, 0, 0);
        due("16 nobody owes", x.rings(), 0);
        Check.act(x, "A=1BB=1CA=1C");
        due("16 a line does not go round", x.rings(), 0);
    }

    private static void ringsOfTwo() {
        for (int soul = 0; soul < 8; soul++) {
            for (int other = 0; other < soul; other++) {
                NextLife x = souls(0, 0, 0, 0, 0, 0, 0, 0);
                String a = String.valueOf((char) ('A' + soul));
                String b = String.valueOf((char) ('A' + other));
                Check.act(x, a + "=1" + b);
                due("16 one owes", x.rings(), 0);
                Check.act(x, b + "=1" + a);
                due("16 both owe", x.rings(), 1 << soul | 1 << other);
                x.birth(soul, 0, 0);
                due("16 born anew", x.rings(), 0);
            }
        }
    }

    private static void ringsWithEndsThatHang() {
        NextLife x = souls(0, 0, 0, 0, 0, 0);
        // C owes E, who owes D, who owes C; B owes C, and D owes F
        Check.act(x, "C=1DD=1EE=1CC=1BF=1D");
        due("16 the round alone", x.rings(), 28);
        Check.act(x, "A=1B");
        due("16 B owes one more", x.rings(), 28);
        Check.act(x, "B=1F");
        due("16 the ends meet", x.rings(), 62);
    }

    private static void ringsOfAll() {
        NextLife x = souls(0, 0, 0, 0, 0, 0, 0, 0);
        Check.act(x, "A=1BB=1CC=1DD=1EE=1FF=1GG=1H");
        due("16 not yet", x.rings(), 0);
        Check.act(x, "H=1A");
        due("16 all eight", x.rings(), 255);
        NextLife y = souls(0, 0, 0, 0, 0, 0, 0, 0);
        Check.act(y, "B=1AC=1BD=1CE=1DF=1EG=1FH=1G");
        due("16 not yet", y.rings(), 0);
        Check.act(y, "A=1H");
        due("16 all eight, the other way round", y.rings(), 255);
    }
}
