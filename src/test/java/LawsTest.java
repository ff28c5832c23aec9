/** Promises 21 to 26: seen, forget, laws, next, chance, book. */
public final class LawsTest {
    private static final Check CHECK = new Check();
    private static final int NONE = NextLife.NONE;

    public static void main(String[] args) {
        sights();
        laws();
        nextToTry();
        chances();
        chancesRefused();
        books();
        booksOfLoans();
        booksInTheLastYear();
        booksRefused();
        CHECK.end();
    }

    private static void due(String call, long got, long want) {
        CHECK.due(call, got, want);
    }

    private static void sights() {
        NextLife x = new NextLife();
        due("21 marks -1", x.seen(-1, true), NextLife.OUTSIDE);
        due("21 marks 256", x.seen(256, false), NextLife.OUTSIDE);
        for (int i = 1; i <= 8; i++) {
            due("21 sight", x.seen(255, true), i);
        }
        due("21 full", x.seen(0, true), NextLife.FULL);
        due("21 outside ahead of full", x.seen(256, true), NextLife.OUTSIDE);
        due("21 laws as before", x.laws(-1), 1024);
        due("29 sights", x.told(3), 8);
        due("22 forgotten", x.forget(), 8);
        due("22 forgotten again", x.forget(), 0);
        due("21 opened is forgotten too", x.seen(255, false), 1);
        due("23 none fits", x.laws(-1), 0);
    }

    private static void laws() {
        NextLife x = new NextLife();
        due("23 first", x.laws(0), 11);
        due("23 last", x.laws(1023), 2558);
        due("23 behind", x.laws(1024), NONE);
        due("23 far behind", x.laws(Integer.MAX_VALUE), NONE);
        due("23 ahead", x.laws(-2), NONE);
        due("23 far ahead", x.laws(Integer.MIN_VALUE), NONE);
        x.seen(0, false);
        due("23 always so", x.laws(-1), 1024);
        x.seen(3, true);
        x.seen(252, false);
        // 1 and 2 alone remain of the marks: each of them, either, both, with any marks that are
        // felt fewer times than the hits that are wanted
        due("23 first", x.laws(0), 11);
        due("23 second", x.laws(1), 21);
        due("23 third", x.laws(2), 31);
        due("23 fourth", x.laws(3), 32);
        due("23 fifth", x.laws(4), 72);
        x.seen(1, false);
        due("23 without the first", x.laws(0), 21);
        due("23 both", x.laws(1), 32);
        due("23 with one more", x.laws(2), 72);
        due("23 other ones", x.laws(-1), 8);
        due("23 last", x.laws(7), 1312);
        due("23 behind", x.laws(8), NONE);
    }

    private static void nextToTry() {
        NextLife x = new NextLife();
        due("24 nobody lives", x.next(0), NONE);
        due("24 nobody lives", x.next(1), NONE);
        NextLife first = new NextLife();
        first.birth(0, 7, 0);
        first.birth(1, 0, 0);
        due("24 the first soul", first.next(0), 0);
        due("24 its most", first.next(1), 640);
        // weighed anew each time
        due("24 its most again", first.next(1), 640);
        due("24 what -1", x.next(-1), NextLife.OUTSIDE);
        due("24 what 2", x.next(2), NextLife.OUTSIDE);
        x.birth(1, 0, 0);
        due("24 the only one", x.next(0), 1);
        due("24 all are left", x.next(1), 1024);
        x.birth(3, 255, 0);
        due("24 of several the least", x.next(0), 1);
        x.birth(7, 7, 0);
        due("24 the best", x.next(0), 7);
        due("24 its most", x.next(1), 640);
        x.birth(6, 56, 0);
        due("24 as good, less", x.next(0), 6);
        Check.act(x, "G>F");
        due("24 dead one", x.next(0), 7);
        x.seen(0, true);
        due("24 no law", x.next(0), NONE);
        due("24 no law", x.next(1), NONE);
    }

    private static void chance(NextLife x, int box, int n, int t, long upper, long lower) {
        due("25 upper " + n + " " + t, x.chance(0, box, n, t, 0), upper);
        due("25 lower " + n + " " + t, x.chance(0, box, n, t, 1), lower);
    }

    private static void chances() {
        NextLife x = new NextLife();
        x.birth(0, 255, 0);
        x.box(0, 255, 8, 0);
        x.box(1, 255, 0, 0);
        x.box(2, 128, 1, 0);
        x.box(3, 3, 1, 0);
        x.box(4, 3, 3, 0);
        chance(x, 0, 0, 0, 1, 1);
        chance(x, 0, 1, 10, 1, 1);
        chance(x, 0, 1, 0, 0, 1);
        chance(x, 0, 1, 1, 1, 100000000L);
        chance(x, 0, 2, 1, 1, 10000000000000000L);
        chance(x, 0, 2, 3, 43046721L * 1, 10000000000000000L);
        chance(x, 1, 2, 0, 1, 1);
        chance(x, 1, 2, 7, 1, 1);
        chance(x, 2, 1, 4, 2, 5);
        chance(x, 2, 2, 4, 4, 25);
        chance(x, 3, 1, 5, 3, 4);
        chance(x, 3, 2, 9, 9639, 10000);
        chance(x, 4, 0, 5, 0, 1);
        chance(x, 4, 2, 10, 0, 1);
    }

    private static void chancesRefused() {
        NextLife x = new NextLife();
        x.birth(0, 255, 0);
        long unknown = NextLife.LOST + NextLife.UNKNOWN;
        long outside = NextLife.LOST + NextLife.OUTSIDE;
        due("25 soul -1", x.chance(-1, 0, 0, 0, 0), unknown);
        due("25 soul 8", x.chance(8, 0, 0, 0, 0), unknown);
        due("25 does not live", x.chance(1, 0, 0, 0, 0), unknown);
        due("25 box -1", x.chance(0, -1, 0, 0, 0), unknown);
        due("25 box 6", x.chance(0, 6, 0, 0, 0), unknown);
        due("25 box ahead of n", x.chance(0, 6, 3, 11, 2), unknown);
        due("25 n -1", x.chance(0, 0, -1, 0, 0), outside);
        due("25 n 3", x.chance(0, 0, 3, 0, 0), outside);
        due("25 t -1", x.chance(0, 0, 0, -1, 0), outside);
        due("25 t 11", x.chance(0, 0, 0, 11, 0), outside);
        due("25 part -1", x.chance(0, 0, 0, 0, -1), outside);
        due("25 part 2", x.chance(0, 0, 0, 0, 2), outside);
    }

    /** One draw is looked at by itself: it is 75 times the seed and 74. */
    private static void books() {
        for (int seed = 0; seed < 10000; seed++) {
            int draw = (75 * seed + 74) % 65537;
            int first = draw / 8 % 8;
            int second = draw / 64 % 8;
            boolean dies = draw % 8 == 1 && first == 0 && second != 0;
            boolean tries = draw % 8 > 3 && first == 0 && draw / 64 % 6 == 0;
            if (seed % 7 == 0 || dies || tries) {
                NextLife x = new NextLife();
                x.birth(0, 3, 101);
                x.box(0, 1, 1, 7);
                due("26 lives", x.book(seed, 1, 0), 1);
                due("26 purses", x.book(seed, 1, 1), dies ? 50 : tries ? 108 : 101);
                due("26 coins", x.book(seed, 1, 2), tries ? 0 : 7);
                due("26 nothing is done", x.told(1), 1);
                due("26 nothing is done", x.told(101), 101);
                due("26 nothing is done", x.told(12), 7);
            }
        }
    }

    /** Into full purses what is lent is lost, so that the sum tells how much it was. */
    private static void booksOfLoans() {
        for (int seed = 0; seed < 10000; seed += 13) {
            int draw = (75 * seed + 74) % 65537;
            NextLife x = new NextLife();
            for (int soul = 0; soul < 8; soul++) {
                x.birth(soul, 0, 999);
            }
            boolean lends = (draw % 8 == 2 || draw % 8 == 3) && draw / 8 % 8 != draw / 64 % 8;
            due("26 lent by " + seed, x.book(seed, 1, 1), 8 * 999 - (lends ? 1 + draw / 512 % 9 : 0));
        }
    }

    /** In the last year none ends; loans into full purses lose coins. */
    private static void booksInTheLastYear() {
        NextLife x = new NextLife();
        String years = ".................................................";
        Check.act(x, years);
        Check.act(x, years);
        Check.act(x, ".");
        for (int soul = 0; soul < 8; soul++) {
            x.birth(soul, 0, 999);
        }
        int draw = 5;
        int lent = 0;
        for (int m = 1; m <= 3; m++) {
            draw = (75 * draw + 74) % 65537;
            boolean lends = (draw % 8 == 2 || draw % 8 == 3) && draw / 8 % 8 != draw / 64 % 8;
            lent += lends ? 1 + draw / 512 % 9 : 0;
            due("26 all live", x.book(5, m, 0), 8);
            due("26 full purses", x.book(5, m, 1), 8 * 999 - lent);
        }
        due("26 the year stays", x.told(2), 99);
    }

    private static void booksRefused() {
        NextLife x = new NextLife();
        due("26 seed -1", x.book(-1, 1, 0), NextLife.OUTSIDE);
        due("26 seed 10000", x.book(10000, 1, 0), NextLife.OUTSIDE);
        due("26 m 0", x.book(0, 0, 0), NextLife.OUTSIDE);
        due("26 m 100", x.book(0, 100, 0), NextLife.OUTSIDE);
        due("26 what -1", x.book(0, 1, -1), NextLife.OUTSIDE);
        due("26 what 3", x.book(0, 1, 3), NextLife.OUTSIDE);
        due("26 least", x.book(0, 1, 0), 0);
        due("26 most", x.book(9999, 99, 2), 0);
    }
}
