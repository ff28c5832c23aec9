/** The edges of promises 27 to 29: image, restore, told. */
public final class ImagesEdgesTest {
    private static final Check CHECK = new Check();
    private static final Edges EDGES = new Edges(CHECK);
    private static final int NONE = NextLife.NONE, OUTSIDE = NextLife.OUTSIDE, STATE = NextLife.STATE;

    public static void main(String[] args) {
        imageOutside();
        restoreOutside();
        restoreWhatWasNotKept();
        imagesOfNothing();
        imagesOfAll();
        imagesOfSights();
        imagesWithoutThePad();
        imagesAreApart();
        toldOutside();
        toldAtFirstAndAtMost();
        toldOfWhoDoesNotLive();
        aFaultHindersNothingElse();
        CHECK.end();
    }

    private static void due(String call, long got, long want) {
        CHECK.due(call, got, want);
    }

    // image: "an IMAGE (0, 1): 1. OUTSIDE."

    private static void imageOutside() {
        for (int n : Edges.outside(0, 1)) {
            EDGES.refusedAlways("27 image " + n, OUTSIDE, x -> x.image(n));
        }
        for (int state = 0; state < Edges.STATES; state++) {
            NextLife x = Edges.made(state);
            due("27 the first", x.image(0), 1);
            due("27 the last", x.image(1), 1);
            due("27 again", x.image(0), 1);
            CHECK.isTrue("27 nothing has changed", Edges.allSeen(x).equals(Edges.allSeen(Edges.made(state))));
        }
    }

    // restore: "OUTSIDE; STATE: it was not."

    private static void restoreOutside() {
        for (int n : Edges.outside(0, 1)) {
            EDGES.refusedAlways("28 image " + n, OUTSIDE, x -> x.restore(n));
        }
    }

    private static void restoreWhatWasNotKept() {
        EDGES.refused(Edges.NEW, "28 the first", STATE, x -> x.restore(0));
        EDGES.refused(Edges.NEW, "28 the last", STATE, x -> x.restore(1));
        for (int state : new int[] {Edges.BANK, Edges.FAULTY, Edges.BARRED}) {
            EDGES.refused(state, "28 the last", STATE, x -> x.restore(1));
            due("28 the first was kept", Edges.made(state).restore(0), 1);
        }
        NextLife y = new NextLife();
        y.image(1);
        due("28 the first was not", y.restore(0), STATE);
        due("28 the last was", y.restore(1), 1);
    }

    private static void imagesOfNothing() {
        NextLife x = new NextLife();
        x.image(0);
        x.birth(0, 255, 999);
        x.birth(7, 255, 999);
        x.box(0, 255, 8, 999);
        x.seen(255, false);
        Check.act(x, ".A=9H");
        due("28 restored", x.restore(0), 1);
        CHECK.isTrue("28 as a new one", Edges.allSeen(x).equals(Edges.allSeen(new NextLife())));
    }

    // "It is as it was when it was kept"

    private static void imagesOfAll() {
        String first = Edges.allSeen(Edges.made(Edges.BANK));
        NextLife x = Edges.made(Edges.BANK);
        x.image(1);
        x.restore(0);
        due("28 the year of the first", x.told(2), 0);
        due("28 the sights of the first", x.told(3), 1);
        due("28 who lived", x.told(1), 7);
        due("28 nothing was owed", x.owes(1, 0), 0);
        due("28 a purse of the first", x.told(101), 100);
        x.birth(6, 9, 9);
        x.box(3, 9, 3, 9);
        due("28 restored", x.restore(1), 1);
        CHECK.isTrue("28 as it was", first.equals(Edges.allSeen(x)));
    }

    /** As many sights in both, so that only what was seen tells them apart. */
    private static void imagesOfSights() {
        NextLife x = new NextLife();
        for (int i = 0; i < 8; i++) {
            x.seen(128, true);
        }
        x.image(0);
        x.forget();
        for (int i = 0; i < 8; i++) {
            x.seen(128, false);
        }
        x.image(1);
        due("23 not opened", x.laws(-1), 1024 - 128);
        x.restore(0);
        due("28 opened", x.laws(-1), 128);
        due("28 the first of these laws", x.laws(0), 1281);
        due("28 a full row is full again", x.seen(1, true), NextLife.FULL);
        x.forget();
        x.seen(64, true);
        due("23 another mark", x.laws(0), 641);
        x.restore(1);
        due("28 not opened", x.laws(-1), 1024 - 128);
        x.restore(0);
        due("28 the first of these laws", x.laws(0), 1281);
        due("28 eight sights", x.forget(), 8);
    }

    // "All but the PAD is kept"

    private static void imagesWithoutThePad() {
        NextLife x = new NextLife();
        Check.write(x, "A0");
        x.image(0);
        Check.write(x, ".".repeat(60));
        x.restore(0);
        due("28 the pad stays full", x.told(0), 60);
        due("28 it is the newer text", x.done(), 60);
        due("28 the year", x.told(2), 60);
        x.restore(0);
        due("28 the year goes back", x.told(2), 0);
        due("28 the pad stays empty", x.told(0), 0);
        Check.write(x, "!");
        x.restore(0);
        due("28 the fault stays", x.fault(), 0);
    }

    private static void imagesAreApart() {
        NextLife x = new NextLife();
        x.birth(0, 1, 1);
        x.image(0);
        x.birth(1, 2, 2);
        x.image(1);
        x.birth(2, 3, 3);
        x.restore(0);
        due("28 the first", x.told(1), 1);
        x.birth(7, 4, 4);
        due("28 the other", x.restore(1), 1);
        due("28 the other", x.told(1), 3);
        x.restore(0);
        due("28 what came behind is not in it", x.told(1), 1);
        due("28 again and again", x.restore(0), 1);
        due("28 again and again", x.told(1), 1);
        x.restore(1);
        x.image(0);
        x.birth(5, 0, 0);
        x.restore(0);
        due("27 kept anew", x.told(1), 3);
    }

    // told: "OUTSIDE."

    private static void toldOutside() {
        int[] some = {-1, 4, 5, 9, 13, 19, 23, 29, 33, 43, 53, 59, 63, 69, 70, 71, 72, 80, 99, 103, 109, 110, 199,
            203, 303, 403, 503, 603, 703, 803, 810, 899, 900, 901, 902, 1000, 65536, -10, -100, -102,
            Edges.LEAST, Edges.MOST, Edges.LEAST + 100, Edges.MOST - 47};
        for (int what : some) {
            EDGES.refusedAlways("29 what " + what, OUTSIDE, x -> x.told(what));
        }
    }

    private static void toldAtFirstAndAtMost() {
        NextLife x = Edges.made(Edges.BRIMMING);
        due("29 signs", x.told(0), 60);
        due("29 who live", x.told(1), 255);
        due("29 year", x.told(2), 99);
        due("29 sights", x.told(3), 8);
        for (int box = 0; box < 6; box++) {
            due("29 wants", x.told(10 * (1 + box)), 255);
            due("29 hits", x.told(10 * (1 + box) + 1), 8);
            due("29 coins", x.told(10 * (1 + box) + 2), 999);
        }
        for (int soul = 0; soul < 8; soul++) {
            due("29 marks", x.told(100 * (1 + soul)), 255);
            due("29 purse", x.told(100 * (1 + soul) + 1), 999);
            due("29 was", x.told(100 * (1 + soul) + 2), NONE);
        }
    }

    // "0 MARKS, 1 PURSE (0: it does not LIVE), 2 who it WAS (NONE)"

    private static void toldOfWhoDoesNotLive() {
        NextLife x = new NextLife();
        x.birth(0, 255, 999);
        Check.act(x, "A>BB>H");
        due("29 no marks", x.told(100) + x.told(200), 0);
        due("29 no purse", x.told(101) + x.told(201), 0);
        due("29 was nobody", x.told(102), NONE);
        due("29 was the first", x.told(202), 0);
        due("29 was the second", x.told(802), 1);
        due("29 never lived", x.told(302), NONE);
    }

    /** NO is told of judge, done, behind and then alone. */
    private static void aFaultHindersNothingElse() {
        for (int state : new int[] {Edges.FAULTY, Edges.BARRED}) {
            NextLife x = Edges.made(state);
            NextLife y = Edges.made(Edges.BANK);
            due("11", x.opens(0), y.opens(0));
            due("12", x.two(), y.two());
            due("13", x.chain(7, 1), y.chain(7, 1));
            due("14", x.owes(1, 0), y.owes(1, 0));
            due("15", x.netted(1), y.netted(1));
            due("16", x.rings(), y.rings());
            due("17", x.note(0, 1), y.note(0, 1));
            due("18", x.only(0, 0), y.only(0, 0));
            due("19", x.share(0, 1), y.share(0, 1));
            due("20", x.match(-1), y.match(-1));
            due("23", x.laws(-1), y.laws(-1));
            due("24", x.next(1), y.next(1));
            due("25", x.chance(0, 0, 2, 3, 0), y.chance(0, 0, 2, 3, 0));
            due("2", x.birth(4, 1, 1), y.birth(4, 1, 1));
            due("3", x.box(0, 1, 1, 1), y.box(0, 1, 1, 1));
            due("21", x.seen(1, true), y.seen(1, true));
            due("27", x.image(1), 1);
            due("28", x.restore(1), 1);
            due("22", x.forget(), 3);
        }
    }
}
