/** Promises 27 to 29, image, restore, told; and that refused calls change nothing. */
public final class ImagesTest {
    private static final Check CHECK = new Check();

    public static void main(String[] args) {
        keptAndRestored();
        keptAnew();
        imagesAndSights();
        imagesAndThePad();
        told();
        toldOutside();
        refusedCallsChangeNothing();
        askingChangesNothing();
        CHECK.end();
    }

    private static void due(String call, long got, long want) {
        CHECK.due(call, got, want);
    }

    private static NextLife bank() {
        NextLife x = new NextLife();
        x.birth(0, 7, 100);
        x.birth(1, 5, 50);
        x.birth(2, 6, 3);
        x.box(0, 7, 2, 60);
        x.box(5, 5, 0, 40);
        x.seen(3, true);
        x.seen(4, false);
        Check.act(x, ".A=5BB=2CC>H");
        return x;
    }

    /** Changes something of all that is kept. */
    private static void change(NextLife x) {
        x.birth(4, 1, 1);
        x.birth(0, 1, 1);
        x.box(1, 3, 3, 3);
        x.box(0, 0, 0, 0);
        x.seen(9, true);
        Check.act(x, "..H>GA>C");
    }

    private static void keptAndRestored() {
        NextLife x = bank();
        due("28 not kept", x.restore(0), NextLife.STATE);
        due("28 not kept", x.restore(1), NextLife.STATE);
        String first = Check.snapshot(x);
        due("27 kept", x.image(0), 1);
        due("28 the other is not", x.restore(1), NextLife.STATE);
        change(x);
        String second = Check.snapshot(x);
        CHECK.isTrue("all has changed", !first.equals(second));
        due("27 kept", x.image(1), 1);
        due("28 restored", x.restore(0), 1);
        CHECK.isTrue("28 as it was", first.equals(Check.snapshot(x)));
        due("28 the other", x.restore(1), 1);
        CHECK.isTrue("28 as it was", second.equals(Check.snapshot(x)));
    }

    private static void keptAnew() {
        NextLife x = bank();
        x.image(0);
        String first = Check.snapshot(x);
        x.restore(0);
        change(x);
        due("28 restored again", x.restore(0), 1);
        CHECK.isTrue("28 as it was", first.equals(Check.snapshot(x)));
        change(x);
        due("27 kept anew", x.image(0), 1);
        String second = Check.snapshot(x);
        x.forget();
        x.birth(7, 0, 0);
        x.restore(0);
        CHECK.isTrue("28 the newer one", second.equals(Check.snapshot(x)));
    }

    private static void imagesAndSights() {
        NextLife x = new NextLife();
        x.seen(7, true);
        x.seen(3, false);
        int fitting = x.laws(-1);
        int first = x.laws(0);
        x.image(0);
        x.forget();
        x.seen(128, false);
        x.seen(64, true);
        due("28 other laws", x.laws(0), 641);
        x.restore(0);
        due("28 sights", x.told(3), 2);
        due("28 laws", x.laws(-1), fitting);
        due("28 the first law", x.laws(0), first);
    }

    private static void imagesAndThePad() {
        NextLife x = bank();
        x.say('A');
        x.image(0);
        x.say('0');
        x.restore(0);
        due("28 the pad stays", x.told(0), 2);
        x.wipe();
        x.restore(0);
        due("28 the pad stays wiped", x.told(0), 0);
        due("27 image -1", x.image(-1), NextLife.OUTSIDE);
        due("27 image 2", x.image(2), NextLife.OUTSIDE);
        due("28 image -1", x.restore(-1), NextLife.OUTSIDE);
        due("28 image 2", x.restore(2), NextLife.OUTSIDE);
        due("28 outside ahead of state", new NextLife().restore(2), NextLife.OUTSIDE);
    }

    private static void told() {
        NextLife x = bank();
        Check.write(x, "A0B");
        due("29 signs", x.told(0), 3);
        due("29 lives", x.told(1), 131);
        due("29 year", x.told(2), 1);
        due("29 sights", x.told(3), 2);
        due("29 wants", x.told(10), 7);
        due("29 hits", x.told(11), 2);
        due("29 coins", x.told(12), 60);
        due("29 last wants", x.told(60), 5);
        due("29 last hits", x.told(61), 0);
        due("29 last coins", x.told(62), 40);
        due("29 marks", x.told(100), 7);
        due("29 purse", x.told(101), 95);
        due("29 was", x.told(102), NextLife.NONE);
        due("29 dead marks", x.told(300), 0);
        due("29 dead purse", x.told(301), 0);
        due("29 last marks", x.told(800), 4);
        due("29 last purse", x.told(801), 2);
        due("29 last was", x.told(802), 2);
        due("29 least", x.told(Integer.MIN_VALUE), NextLife.OUTSIDE);
        due("29 most", x.told(Integer.MAX_VALUE), NextLife.OUTSIDE);
    }

    private static void toldOutside() {
        NextLife x = bank();
        for (int what = -20; what < 1200; what++) {
            x = what % 400 == 0 ? bank() : x;
            boolean plain = what >= 0 && what <= 3;
            boolean box = what >= 10 && what <= 62 && what % 10 <= 2;
            boolean soul = what >= 100 && what <= 802 && what % 100 <= 2;
            CHECK.isTrue("29 outside " + what, (x.told(what) == NextLife.OUTSIDE) == !(plain || box || soul));
        }
    }

    private static void refusedCallsChangeNothing() {
        NextLife x = bank();
        Check.write(x, "A0B1");
        String was = Check.snapshot(x);
        x.birth(8, 0, 0);
        x.birth(0, 256, 0);
        x.birth(0, 0, 1000);
        x.birth(6, 0, -1);
        x.box(6, 0, 0, 0);
        x.box(0, 256, 0, 0);
        x.box(0, 0, 9, 0);
        x.box(0, 0, 0, 1000);
        x.say(32);
        x.say(127);
        x.judge(2);
        x.behind(0, 4);
        x.behind(8, 0);
        x.then(4);
        x.seen(256, true);
        x.seen(-1, true);
        x.next(2);
        x.note(0, 2);
        x.match(-2);
        x.chance(0, 0, 3, 0, 0);
        x.book(10000, 1, 0);
        x.image(2);
        x.restore(0);
        x.restore(2);
        CHECK.isTrue("refused calls change nothing", was.equals(Check.snapshot(x)));
        due("27 nothing was kept", x.restore(0), NextLife.STATE);
        for (int i = 3; i <= 8; i++) {
            x.seen(1, true);
        }
        int fitting = x.laws(-1);
        x.seen(0, true);
        due("21 a full row stays", x.laws(-1), fitting);
    }

    private static void askingChangesNothing() {
        NextLife x = bank();
        Check.write(x, "A0.A>CB=9HH>DD0");
        String was = Check.snapshot(x);
        for (int what = 0; what < 4; what++) {
            x.behind(3, what);
            x.then(what);
        }
        x.two();
        x.rings();
        x.match(-1);
        x.match(0);
        x.share(0, 0);
        x.only(0, 0);
        x.note(0, 1);
        x.next(0);
        x.chance(0, 0, 2, 5, 0);
        x.book(77, 99, 1);
        x.image(1);
        CHECK.isTrue("asking changes nothing", was.equals(Check.snapshot(x)));
    }
}
