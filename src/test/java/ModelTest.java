import java.util.ArrayList;
import java.util.List;
import java.util.Random;

/** Runs of calls drawn by lot (by fixed seeds), on the class and on the model side by side. */
public final class ModelTest {
    private static final int RUNS = 400;
    /** A step may take seventy calls more, and an object has but 512. */
    private static final int CALLS = 440;
    /** More than the pad holds, so that it is full now and then. */
    private static final int LONGEST_TEXT = 64;

    private final Random lot;
    private final NextLife x = new NextLife();
    private final Model model = new Model();
    private final List<String> calls = new ArrayList<>();
    private int count = 0;

    private ModelTest(long seed) {
        lot = new Random(seed);
    }

    public static void main(String[] args) {
        int calls = 0;
        for (int run = 0; run < RUNS; run++) {
            ModelTest test = new ModelTest(run);
            if (!test.run()) {
                System.out.println("run " + run + " is not as the model's:");
                test.calls.forEach(System.out::println);
                System.exit(1);
            }
            calls += test.count;
        }
        System.out.println(calls + " answers, all as the model's");
    }

    private boolean run() {
        count = 0;
        while (count < CALLS) {
            if (!step(lot.nextInt(34))) {
                return false;
            }
        }
        return true;
    }

    private boolean same(String call, long got, long want) {
        count++;
        calls.add(call + " answered " + got + (got == want ? "" : ", due is " + want));
        return got == want;
    }

    /** A number from least to most, now and then one that lies outside. */
    private int pick(int least, int most) {
        int how = lot.nextInt(40);
        if (how == 0) {
            return least - 1;
        }
        if (how == 1) {
            return most + 1;
        }
        if (how == 2) {
            return lot.nextInt();
        }
        if (how < 6) {
            return how == 3 ? most : least;
        }
        return least + lot.nextInt(most - least + 1);
    }

    private int marks() {
        return lot.nextInt(3) == 0 ? pick(0, 255) : pick(0, 255) & pick(0, 255) & 31;
    }

    private String text() {
        StringBuilder s = new StringBuilder();
        int acts = lot.nextInt(lot.nextInt(4) == 0 ? 20 : 6);
        for (int i = 0; i < acts; i++) {
            s.append(act());
        }
        if (lot.nextInt(10) == 0 && s.length() > 0) {
            s.setCharAt(lot.nextInt(s.length()), (char) (33 + lot.nextInt(94)));
        }
        if (lot.nextInt(10) == 0 && s.length() > 0) {
            s.setLength(s.length() - 1);
        }
        return s.substring(0, Math.min(s.length(), LONGEST_TEXT));
    }

    private String act() {
        char first = soulFor(true);
        switch (lot.nextInt(6)) {
            case 0:
                return ".".repeat(1 + lot.nextInt(9));
            case 1:
                return first + ">" + soulFor(lot.nextInt(8) == 0);
            case 2:
            case 3:
                return first + "=" + (1 + lot.nextInt(9)) + soulFor(true);
            default:
                return first + "" + lot.nextInt(6);
        }
    }

    /** Mostly one who lives (or does not) now, so that many texts can be. */
    private char soulFor(boolean living) {
        for (int i = 0; i < 12; i++) {
            int soul = lot.nextInt(8);
            if (model.living(soul) == living) {
                return (char) ('A' + soul);
            }
        }
        return (char) ('A' + lot.nextInt(8));
    }

    private boolean write(String text) {
        boolean same = same("wipe", x.wipe(), model.wipe());
        for (int i = 0; i < text.length(); i++) {
            same &= same("say " + text.charAt(i), x.say(text.charAt(i)), model.say(text.charAt(i)));
        }
        return same;
    }

    private boolean step(int kind) {
        return kind < 17 ? stepFirst(kind) : stepSecond(kind);
    }

    private boolean stepFirst(int kind) {
        int soul = pick(0, 7);
        int box = pick(0, 5);
        int what = pick(0, 3);
        switch (kind) {
            case 0: {
                int marks = marks();
                int purse = pick(0, 999);
                return same("birth " + soul + " " + marks + " " + purse, x.birth(soul, marks, purse),
                        model.birth(soul, marks, purse));
            }
            case 1:
            case 2: {
                int wants = marks();
                int hits = lot.nextInt(4) == 0 ? pick(0, 8) : pick(0, 3);
                int coins = lot.nextInt(2) == 0 ? pick(0, 999) : pick(0, 5);
                return same("box " + box + " " + wants + " " + hits + " " + coins,
                        x.box(box, wants, hits, coins), model.box(box, wants, hits, coins));
            }
            case 3: {
                int sign = pick(33, 126);
                return same("say " + sign, x.say(sign), model.say(sign));
            }
            case 4:
            case 5:
            case 6:
                return write(text()) && same("fault", x.fault(), model.fault())
                        && same("judge", x.judge(0), model.judge(0)) && same("judge", x.judge(1), model.judge(1))
                        && same("done", x.done(), model.done());
            case 7:
                return write(text()) && same("fault", x.fault(), model.fault());
            case 8:
                return same("judge " + what, x.judge(what), model.judge(what));
            case 9:
            case 10:
                return same("behind " + soul + " " + what, x.behind(soul, what), model.behind(soul, what));
            case 11:
                return same("then " + what, x.then(what), model.then(what));
            case 12:
                return same("opens " + box, x.opens(box), model.opens(box));
            case 13:
                return same("two", x.two(), model.two());
            case 14:
                return same("chain " + soul + " " + what, x.chain(soul, what), model.chain(soul, what));
            case 15: {
                int other = pick(0, 7);
                return same("owes " + soul + " " + other, x.owes(soul, other), model.owes(soul, other));
            }
            default:
                return same("netted " + soul, x.netted(soul), model.netted(soul))
                        && same("rings", x.rings(), model.rings());
        }
    }

    private boolean stepSecond(int kind) {
        int soul = pick(0, 7);
        int box = pick(0, 5);
        int what = pick(0, 1);
        switch (kind) {
            case 17:
            case 18:
                return same("note " + soul + " " + what, x.note(soul, what), model.note(soul, what));
            case 19:
                return same("only " + box + " " + soul, x.only(box, soul), model.only(box, soul));
            case 20:
            case 21:
                return same("share " + box + " " + soul, x.share(box, soul), model.share(box, soul));
            case 22: {
                int of = pick(-1, 7);
                return same("match " + of, x.match(of), model.match(of));
            }
            case 23: {
                int marks = pick(0, 255);
                boolean opened = lot.nextInt(2) == 0;
                return same("seen " + marks + " " + opened, x.seen(marks, opened), model.seen(marks, opened));
            }
            case 24:
                return lot.nextInt(3) > 0 || same("forget", x.forget(), model.forget());
            case 25: {
                int i = pick(-1, lot.nextInt(2) == 0 ? 9 : 1023);
                return same("laws " + i, x.laws(i), model.laws(i));
            }
            case 26:
                return same("next " + what, x.next(what), model.next(what));
            case 27: {
                int n = pick(0, 2);
                int t = pick(0, 10);
                return same("chance " + soul + " " + box + " " + n + " " + t + " " + what,
                        x.chance(soul, box, n, t, what), model.chance(soul, box, n, t, what));
            }
            case 28:
            case 29: {
                int seed = pick(0, 9999);
                int m = pick(1, 99);
                int of = pick(0, 2);
                return same("book " + seed + " " + m + " " + of, x.book(seed, m, of), model.book(seed, m, of));
            }
            case 30:
                return same("image " + what, x.image(what), model.image(what));
            case 31:
                return same("restore " + what, x.restore(what), model.restore(what));
            default: {
                int of = tellable();
                return same("told " + of, x.told(of), model.told(of));
            }
        }
    }

    private int tellable() {
        switch (lot.nextInt(4)) {
            case 0:
                return pick(0, 3);
            case 1:
                return 10 * (1 + lot.nextInt(6)) + pick(0, 2);
            case 2:
                return 100 * (1 + lot.nextInt(8)) + pick(0, 2);
            default:
                return pick(0, 900);
        }
    }
}
