/** Promises 17 to 20: note, only, share, match. */
public final class ClaimsTest {
    private static final Check CHECK = new Check();
    private static final int NONE = NextLife.NONE;

    public static void main(String[] args) {
        notes();
        only();
        shares();
        twelveCoins();
        matches();
        firstOfManyMatches();
        refused();
        CHECK.end();
    }

    private static void due(String call, long got, long want) {
        CHECK.due(call, got, want);
    }

    private static NextLife souls(int... marks) {
        NextLife x = new NextLife();
        for (int soul = 0; soul < marks.length; soul++) {
            x.birth(soul, marks[soul], 0);
        }
        return x;
    }

    private static void note(NextLife x, int soul, int many, int which) {
        due("17 how many", x.note(soul, 0), many);
        due("17 which", x.note(soul, 1), which);
    }

    private static void notes() {
        note(souls(0), 0, 0, 0);
        note(souls(255), 0, 0, 0);
        note(souls(0, 0), 0, NONE, NONE);
        note(souls(7, 7), 1, NONE, NONE);
        note(souls(7, 3), 0, 1, 4);
        note(souls(7, 3), 1, NONE, NONE);
        note(souls(192, 3), 0, 1, 64);
        note(souls(7, 3, 5, 6), 0, 3, 7);
        note(souls(15, 3, 5, 9), 0, 2, 6);
        note(souls(24, 8, 16), 0, 2, 24);
        // fewer marks come ahead of lesser bits
        note(souls(11, 1, 2), 0, 1, 8);
        note(souls(255, 127, 191, 223, 239, 247, 251, 253), 0, 7, 254);
        NextLife x = souls(7, 3, 7);
        note(x, 0, NONE, NONE);
        Check.act(x, "C>D");
        note(x, 0, 2, 5);
        note(x, 3, NONE, NONE);
    }

    private static void only() {
        NextLife x = souls(7, 3, 1);
        x.box(0, 7, 5, 0);
        due("18 three", x.only(0, 0), 3);
        due("18 none", x.only(0, 1), NONE);
        x.box(0, 3, 5, 0);
        due("18 as many", x.only(0, 0), NONE);
        x.box(0, 0, 5, 0);
        due("18 nothing wanted", x.only(0, 0), NONE);
        NextLife y = souls(0);
        due("18 alone", y.only(5, 0), 0);
        NextLife z = souls(255, 127);
        z.box(1, 255, 0, 0);
        due("18 eight", z.only(1, 0), 8);
        z.box(1, 128, 0, 0);
        due("18 one", z.only(1, 0), 1);
    }

    private static void shares() {
        NextLife x = souls(3, 12, 3, 0, 240);
        x.box(0, 15, 8, 100);
        due("19 first", x.share(0, 0), 34);
        due("19 second", x.share(0, 1), 33);
        due("19 third", x.share(0, 2), 33);
        due("19 no marks", x.share(0, 3), 0);
        due("19 other marks", x.share(0, 4), 0);
        x.box(0, 15, 8, 2);
        due("19 one of two", x.share(0, 0), 1);
        due("19 two of two", x.share(0, 1), 1);
        due("19 nothing left", x.share(0, 2), 0);
        x.box(0, 16, 8, 5);
        due("19 all of it, for one mark", x.share(0, 4), 5);
        x.box(0, 0, 0, 50);
        due("19 nothing wanted", x.share(0, 0), 0);
        // the one who feels most comes first, though not the least
        NextLife y = souls(1, 7, 3);
        y.box(3, 7, 1, 11);
        due("19 least felt", y.share(3, 0), 1);
        due("19 most felt", y.share(3, 1), 6);
        due("19 between", y.share(3, 2), 4);
        y.box(3, 7, 1, 999);
        due("19 least felt", y.share(3, 0), 166);
        due("19 most felt", y.share(3, 1), 500);
        due("19 between", y.share(3, 2), 333);
        Check.act(y, "B>H");
        due("19 dead one has no part", y.share(3, 0) + y.share(3, 2) + y.share(3, 7), 999);
    }

    private static void twelveCoins() {
        NextLife x = souls(255, 255, 255, 255, 255, 255, 255, 255);
        x.box(2, 255, 8, 12);
        for (int soul = 0; soul < 8; soul++) {
            due("19 of eight", x.share(2, soul), soul < 4 ? 2 : 1);
        }
    }

    private static void matches() {
        NextLife x = souls(7, 5);
        due("20 no box opens", x.match(-1), 0);
        due("20 none", x.match(0), NONE);
        x.box(0, 7, 2, 60);
        due("20 one box", x.match(-1), 60);
        due("20 the first one's", x.match(0), 0);
        due("20 none for the other", x.match(1), NONE);
        x.box(1, 2, 1, 60);
        due("20 both", x.match(-1), 120);
        due("20 swapped", x.match(0), 1);
        due("20 swapped", x.match(1), 0);
        due("20 nothing is done", x.told(12), 60);
    }

    private static void firstOfManyMatches() {
        NextLife x = souls(1, 1, 1, 1, 1, 1, 1, 1);
        for (int box = 0; box < 6; box++) {
            x.box(box, 1, 1, 10);
        }
        due("20 six", x.match(-1), 60);
        for (int soul = 0; soul < 8; soul++) {
            due("20 in turn", x.match(soul), soul < 6 ? soul : NONE);
        }
        // empty boxes are taken too, ahead of none
        NextLife y = souls(1, 1);
        y.box(4, 1, 1, 0);
        y.box(5, 1, 1, 9);
        due("20 coins", y.match(-1), 9);
        due("20 the empty one first", y.match(0), 4);
        due("20 the other", y.match(1), 5);
        NextLife last = new NextLife();
        last.birth(7, 1, 0);
        last.box(5, 1, 1, 8);
        due("20 the last soul", last.match(-1), 8);
        due("20 the last box", last.match(7), 5);
        NextLife z = souls(1);
        z.box(4, 1, 1, 0);
        due("20 empty box", z.match(0), 4);
        z.box(5, 1, 1, 9);
        due("20 most coins", z.match(0), 5);
    }

    private static void refused() {
        NextLife x = souls(7);
        due("17 soul -1", x.note(-1, 0), NextLife.UNKNOWN);
        due("17 soul 8", x.note(8, 0), NextLife.UNKNOWN);
        due("17 does not live", x.note(1, 2), NextLife.UNKNOWN);
        due("17 what -1", x.note(0, -1), NextLife.OUTSIDE);
        due("17 what 2", x.note(0, 2), NextLife.OUTSIDE);
        due("18 box -1", x.only(-1, 0), NextLife.UNKNOWN);
        due("18 box 6", x.only(6, 0), NextLife.UNKNOWN);
        due("18 soul -1", x.only(0, -1), NextLife.UNKNOWN);
        due("18 soul 8", x.only(0, 8), NextLife.UNKNOWN);
        due("18 does not live", x.only(0, 1), NextLife.UNKNOWN);
        due("19 box -1", x.share(-1, 0), NextLife.UNKNOWN);
        due("19 box 6", x.share(6, 0), NextLife.UNKNOWN);
        due("19 soul -1", x.share(0, -1), NextLife.UNKNOWN);
        due("19 soul 8", x.share(0, 8), NextLife.UNKNOWN);
        due("19 does not live", x.share(0, 1), NextLife.UNKNOWN);
        due("20 soul -2", x.match(-2), NextLife.UNKNOWN);
        due("20 soul 8", x.match(8), NextLife.UNKNOWN);
        due("20 does not live", x.match(1), NextLife.UNKNOWN);
        Check.act(x, "A>B");
        due("17 dead", x.note(0, 0), NextLife.UNKNOWN);
        due("18 dead", x.only(0, 0), NextLife.UNKNOWN);
        due("19 dead", x.share(0, 0), NextLife.UNKNOWN);
        due("20 dead", x.match(0), NextLife.UNKNOWN);
    }
}
