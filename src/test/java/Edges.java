import java.util.Arrays;

/**
 * Objects in the states that matter for refused calls, and all that can be seen of them, so that a
 * test can tell that a refused call has changed nothing: not what is, not the pad, not the images.
 */
final class Edges {
    interface Call {
        long on(NextLife x);
    }

    /** New; in use; nothing fits in any more; a fault on the pad; an act on the pad that can not be. */
    static final int NEW = 0, BANK = 1, BRIMMING = 2, FAULTY = 3, BARRED = 4;
    static final int STATES = 5;
    static final int LEAST = Integer.MIN_VALUE, MOST = Integer.MAX_VALUE;
    private static final String[] NAMES = {"new", "in use", "brimming", "faulty", "barred"};

    private final Check check;
    private final String[] seenAhead = new String[STATES];
    private final String[] imagesAhead = new String[STATES];

    Edges(Check check) {
        this.check = check;
        for (int state = 0; state < STATES; state++) {
            seenAhead[state] = allSeen(made(state));
            imagesAhead[state] = imagesSeen(made(state));
        }
    }

    /** Numbers below and above a range: the next ones, the last ones, some that a mask would let in. */
    static int[] outside(int least, int most) {
        int[] some = {least - 1, most + 1, LEAST, MOST, LEAST + least, MOST - least, ~most, least + 32, least + 64,
            least + 256, least + 512, least + 1024, least + 16384, least + 65536, least - 256, least - 65536};
        int[] found = new int[some.length];
        int count = 0;
        for (int number : some) {
            if (number < least || number > most) {
                found[count++] = number;
            }
        }
        return Arrays.copyOf(found, count);
    }

    static NextLife made(int state) {
        switch (state) {
            case NEW:
                return new NextLife();
            case BRIMMING:
                return brimming();
            case FAULTY:
                return withPad("A0B1B=3");
            case BARRED:
                return withPad("A0.C>D");
            default:
                return withPad("A0.B1H>DB=9D");
        }
    }

    /** Souls A, B and H live, C is dead; image 0 is kept and is not as all is now; image 1 is not. */
    private static NextLife withPad(String text) {
        NextLife x = new NextLife();
        x.birth(0, 7, 100);
        x.birth(1, 5, 50);
        x.birth(2, 6, 3);
        x.box(0, 7, 2, 60);
        x.box(1, 5, 2, 40);
        x.box(5, 5, 0, 9);
        x.seen(3, true);
        x.image(0);
        x.seen(4, false);
        Check.act(x, ".A=5BB=2CC>H");
        Check.write(x, text);
        return x;
    }

    /** Everything is as large as it can be, and both images are kept. */
    private static NextLife brimming() {
        NextLife x = new NextLife();
        passYears(x, 99);
        for (int soul = 0; soul < 8; soul++) {
            x.birth(soul, 255, 999);
            x.seen(255, true);
        }
        x.image(1);
        for (int box = 0; box < 6; box++) {
            x.box(box, 255, 8, 999);
        }
        x.image(0);
        Check.write(x, "A0".repeat(30));
        return x;
    }

    static void passYears(NextLife x, int years) {
        for (int left = years; left > 0; left -= 60) {
            Check.act(x, ".".repeat(Math.min(60, left)));
        }
    }

    /** What is, what is on the pad, and what comes of it when it is done. */
    static String allSeen(NextLife x) {
        StringBuilder all = new StringBuilder(Check.snapshot(x));
        for (int soul = 0; soul < 8; soul++) {
            for (int what = 0; what < 4; what++) {
                all.append(' ').append(x.behind(soul, what));
            }
        }
        all.append(" next ").append(x.next(0)).append(' ').append(x.next(1));
        all.append(" done ").append(x.done()).append(' ').append(x.told(0)).append(' ').append(x.netted(1));
        return all.toString();
    }

    private static String imagesSeen(NextLife x) {
        String first = x.restore(0) + " " + Check.snapshot(x);
        return first + " and " + x.restore(1) + " " + Check.snapshot(x);
    }

    /** The call is refused so in this state, and changes nothing. */
    void refused(int state, String call, long due, Call it) {
        String name = call + ", " + NAMES[state];
        NextLife x = made(state);
        check.due(name, it.on(x), due);
        check.isTrue(name + ": nothing has changed", allSeen(x).equals(seenAhead[state]));
        NextLife y = made(state);
        it.on(y);
        check.isTrue(name + ": no image has changed", imagesSeen(y).equals(imagesAhead[state]));
    }

    void refusedAlways(String call, long due, Call it) {
        for (int state = 0; state < STATES; state++) {
            refused(state, call, due, it);
        }
    }

    /** Where somebody lives: A, B and H live in all states but the new one. */
    void refusedWithSouls(String call, long due, Call it) {
        for (int state = BANK; state < STATES; state++) {
            refused(state, call, due, it);
        }
    }
}
