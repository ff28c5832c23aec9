/** Promises 1 to 6: a new object, birth, box, say, wipe, fault. */
public final class SoulsTest {
    private static final Check CHECK = new Check();

    public static void main(String[] args) {
        newObject();
        births();
        birthsAnew();
        boxes();
        signs();
        faults();
        everySignInEveryPlace();
        CHECK.end();
    }

    private static void due(String call, long got, long want) {
        CHECK.due(call, got, want);
    }

    private static void newObject() {
        NextLife x = new NextLife();
        due("1 signs", x.told(0), 0);
        due("1 lives", x.told(1), 0);
        due("1 year", x.told(2), 0);
        due("1 sights", x.told(3), 0);
        for (int box = 0; box < 6; box++) {
            due("1 wants", x.told(10 * (1 + box)), 0);
            due("1 hits", x.told(10 * (1 + box) + 1), 1);
            due("1 coins", x.told(10 * (1 + box) + 2), 0);
        }
        for (int soul = 0; soul < 8; soul++) {
            due("1 marks", x.told(100 * (1 + soul)), 0);
            due("1 purse", x.told(100 * (1 + soul) + 1), 0);
            due("1 was", x.told(100 * (1 + soul) + 2), NextLife.NONE);
            due("1 netted", x.netted(soul), 10000);
        }
        due("1 no image", x.restore(0), NextLife.STATE);
        due("1 no image", x.restore(1), NextLife.STATE);
        due("1 all laws", x.laws(-1), 1024);
    }

    private static void births() {
        NextLife x = new NextLife();
        due("2 first", x.birth(7, 255, 999), 1);
        due("2 second", x.birth(0, 0, 0), 2);
        due("2 lives", x.told(1), 129);
        due("2 marks", x.told(800), 255);
        due("2 purse", x.told(801), 999);
        due("2 same again", x.birth(7, 1, 2), 2);
        due("2 new marks", x.told(800), 1);
        due("2 new purse", x.told(801), 2);
        due("2 soul -1", x.birth(-1, 0, 0), NextLife.UNKNOWN);
        due("2 soul 8", x.birth(8, 0, 0), NextLife.UNKNOWN);
        due("2 soul least", x.birth(Integer.MIN_VALUE, 0, 0), NextLife.UNKNOWN);
        due("2 soul ahead of marks", x.birth(8, 256, 1000), NextLife.UNKNOWN);
        due("2 marks -1", x.birth(1, -1, 0), NextLife.OUTSIDE);
        due("2 marks 256", x.birth(1, 256, 0), NextLife.OUTSIDE);
        due("2 purse -1", x.birth(1, 0, -1), NextLife.OUTSIDE);
        due("2 purse 1000", x.birth(1, 0, 1000), NextLife.OUTSIDE);
        due("2 refused changes nothing", x.told(1), 129);
    }

    private static void birthsAnew() {
        NextLife x = new NextLife();
        x.birth(0, 7, 100);
        x.birth(1, 7, 100);
        Check.act(x, "A=5BB=3AA>C");
        due("2 was", x.told(302), 0);
        due("2 owes", x.owes(1, 2), 5);
        due("2 is owed", x.owes(2, 1), 3);
        due("2 anew", x.birth(2, 1, 1), 2);
        due("2 was nobody", x.told(302), NextLife.NONE);
        due("2 owes nothing", x.owes(1, 2), 0);
        due("2 is owed nothing", x.owes(2, 1), 0);
        Check.act(x, "B>AA=1CC=1A");
        due("2 owed by the first", x.owes(0, 2), 1);
        x.birth(2, 1, 1);
        due("2 owes the first nothing", x.owes(2, 0), 0);
        due("2 the first owes nothing", x.owes(0, 2), 0);
        Check.act(x, "C>D");
        due("2 dead one born", x.birth(2, 4, 4), 3);
        due("2 the other still was it", x.told(402), 2);
    }

    private static void boxes() {
        NextLife x = new NextLife();
        due("3 first", x.box(5, 255, 8, 999), 0);
        due("3 had", x.box(5, 3, 0, 7), 999);
        due("3 had again", x.box(5, 3, 0, 0), 7);
        due("3 wants", x.told(60), 3);
        due("3 hits", x.told(61), 0);
        due("3 coins", x.told(62), 0);
        due("3 another box", x.told(51), 1);
        due("3 box -1", x.box(-1, 0, 0, 0), NextLife.UNKNOWN);
        due("3 box 6", x.box(6, 0, 0, 0), NextLife.UNKNOWN);
        due("3 box ahead of hits", x.box(6, -1, 9, 1000), NextLife.UNKNOWN);
        due("3 wants -1", x.box(0, -1, 0, 0), NextLife.OUTSIDE);
        due("3 wants 256", x.box(0, 256, 0, 0), NextLife.OUTSIDE);
        due("3 hits -1", x.box(0, 0, -1, 0), NextLife.OUTSIDE);
        due("3 hits 9", x.box(0, 0, 9, 0), NextLife.OUTSIDE);
        due("3 coins -1", x.box(0, 0, 0, -1), NextLife.OUTSIDE);
        due("3 coins 1000", x.box(0, 0, 0, 1000), NextLife.OUTSIDE);
        due("3 refused changes nothing", x.told(11), 1);
    }

    private static void signs() {
        NextLife x = new NextLife();
        due("4 below", x.say(32), NextLife.OUTSIDE);
        due("4 above", x.say(127), NextLife.OUTSIDE);
        due("4 negative", x.say(-65), NextLife.OUTSIDE);
        due("4 least", x.say(33), 1);
        due("4 most", x.say(126), 2);
        for (int i = 3; i <= 60; i++) {
            due("4 sign", x.say('.'), i);
        }
        due("4 full", x.say('.'), NextLife.FULL);
        due("4 outside ahead of full", x.say(10), NextLife.OUTSIDE);
        due("4 count", x.told(0), 60);
        due("5 wiped", x.wipe(), 60);
        due("5 wiped again", x.wipe(), 0);
        due("5 count", x.told(0), 0);
        due("5 room again", x.say('A'), 1);
    }

    private static void fault(String text, int want) {
        NextLife x = new NextLife();
        Check.write(x, text);
        due("6 fault of " + text, x.fault(), want);
        due("6 text stays", x.told(0), text.length());
    }

    private static void faults() {
        int none = NextLife.NONE;
        fault("", none);
        fault(".", none);
        fault("...", none);
        fault("A0", none);
        fault("H5", none);
        fault("A6", 1);
        fault("A/", 1);
        fault("I0", 0);
        fault("@0", 0);
        fault("a0", 0);
        fault("0", 0);
        fault(">", 0);
        fault("A", 1);
        fault("AA", 1);
        fault("A.", 1);
        fault("A>", 2);
        fault("A>H", none);
        fault("A>I", 2);
        fault("A>>", 2);
        fault("A=", 2);
        fault("A=0B", 2);
        fault("A=:B", 2);
        fault("A=AB", 2);
        fault("A=1", 3);
        fault("A=1B", none);
        fault("A=9A", none);
        fault("A=11", 3);
        fault("A=1B.A>CC3", none);
        fault("A=1B.A>CC3!", 10);
        fault("A=1B.A>CC", 9);
        fault("A6A", 1);
    }

    /** What may stand behind a beginning, sign by sign. */
    private static void everySignInEveryPlace() {
        standing("", ".ABCDEFGH");
        standing("A", "012345>=");
        standing("A>", "ABCDEFGH");
        standing("A=", "123456789");
        standing("A=4", "ABCDEFGH");
        standing("A3", ".ABCDEFGH");
        standing("A>B", ".ABCDEFGH");
        standing("A=4B", ".ABCDEFGH");
        standing(".", ".ABCDEFGH");
    }

    private static void standing(String start, String allowed) {
        for (int sign = 33; sign <= 126; sign++) {
            NextLife x = new NextLife();
            Check.write(x, start + (char) sign);
            boolean stands = x.fault() != start.length();
            CHECK.isTrue("6 " + start + " and " + (char) sign, stands == (allowed.indexOf(sign) >= 0));
        }
    }
}
