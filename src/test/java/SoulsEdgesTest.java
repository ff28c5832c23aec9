/** The edges of promises 1 to 6: a new object, birth, box, say, wipe, fault; and how all is at first. */
public final class SoulsEdgesTest {
    private static final Check CHECK = new Check();
    private static final Edges EDGES = new Edges(CHECK);
    private static final int NONE = NextLife.NONE, UNKNOWN = NextLife.UNKNOWN, OUTSIDE = NextLife.OUTSIDE;

    public static void main(String[] args) {
        nobodyLivesAtFirst();
        nothingIsOwedAtFirst();
        boxesAreEmptyAtFirst();
        nothingIsToldAtFirst();
        objectsAreApart();
        soulsThatAreThere();
        soulsThatAreNot();
        marksAndPurses();
        eightSoulsLive();
        bornAnew();
        bornAnewOwesNothing();
        boxesThatAreThere();
        boxesThatAreNot();
        wantsHitsAndCoins();
        boxesBesideStay();
        signsOnThePad();
        signsOutside();
        sixtySigns();
        wiped();
        faultsOfAFullPad();
        moreMustCome();
        theFirstFaultIsTold();
        faultsAreOfSignsAlone();
        CHECK.end();
    }

    private static void due(String call, long got, long want) {
        CHECK.due(call, got, want);
    }

    // "SOULS 0 to 7 (A to H), none of whom LIVE at first", "WAS another one (NONE at first)"

    private static void nobodyLivesAtFirst() {
        NextLife x = new NextLife();
        due("1 who live", x.told(1), 0);
        due("1 who live then", x.then(0), 0);
        for (int soul = 0; soul < 8; soul++) {
            due("1 does not live", x.behind(soul, 0), 0);
            due("1 no marks", x.behind(soul, 1), 0);
            due("1 no purse", x.behind(soul, 2), 0);
            due("1 was nobody", x.behind(soul, 3), NONE);
            due("1 no marks", x.told(100 * (1 + soul)), 0);
            due("1 no purse", x.told(100 * (1 + soul) + 1), 0);
            due("1 was nobody", x.told(100 * (1 + soul) + 2), NONE);
            due("1 no others ahead", x.chain(soul, 0), 0);
            due("1 no last one ahead", x.chain(soul, 1), NONE);
            due("1 no note", x.note(soul, 0), UNKNOWN);
            due("1 no box of its own", x.match(soul), UNKNOWN);
            due("1 opens to nobody alone", x.only(0, soul), UNKNOWN);
            due("1 no share", x.share(0, soul), UNKNOWN);
            due("1 no chance", x.chance(soul, 0, 0, 0, 0), NextLife.LOST + UNKNOWN);
        }
        due("1 nobody to try next", x.next(0), NONE);
        due("1 no coins for nobody", x.match(-1), 0);
        due("1 a book of nobody", x.book(0, 99, 0), 0);
    }

    // "A SOUL OWES another one coins (0 to 999; 0 at first)"

    private static void nothingIsOwedAtFirst() {
        NextLife x = new NextLife();
        for (int soul = 0; soul < 8; soul++) {
            for (int other = 0; other < 8; other++) {
                due("1 owes", x.owes(soul, other), soul == other ? UNKNOWN : 0);
            }
            due("1 netted", x.netted(soul), 10000);
        }
        due("1 rings", x.rings(), 0);
    }

    // "WANTS (none at first), HITS (1 at first), COINS (0 at first)"; "boxes are empty"

    private static void boxesAreEmptyAtFirst() {
        NextLife x = new NextLife();
        for (int box = 0; box < 6; box++) {
            due("1 wants", x.told(10 * (1 + box)), 0);
            due("1 hits", x.told(10 * (1 + box) + 1), 1);
            due("1 coins", x.told(10 * (1 + box) + 2), 0);
            due("1 opens to nobody", x.opens(box), 0);
        }
        due("1 two", x.two(), 0);
        due("1 coins in boxes", x.book(0, 1, 2), 0);
        x.birth(0, 255, 0);
        for (int box = 0; box < 6; box++) {
            due("1 wants no marks, yet one hit", x.opens(box), 0);
            due("1 had no coins", x.box(box, 255, 8, 1), 0);
        }
    }

    // "It is YEAR 0 at first."

    private static void nothingIsToldAtFirst() {
        NextLife x = new NextLife();
        due("1 year", x.told(2), 0);
        due("1 year then", x.then(1), 0);
        due("1 signs", x.told(0), 0);
        due("1 signs go", x.wipe(), 0);
        due("1 no fault", x.fault(), NONE);
        due("1 no bad act", x.judge(0), NONE);
        due("1 no reason", x.judge(1), NONE);
        due("1 no tries", x.then(2), 0);
        due("1 no other try", x.then(3), NONE);
        due("1 no acts", x.done(), 0);
        due("1 sights", x.told(3), 0);
        due("1 sights go", x.forget(), 0);
        due("1 all laws fit", x.laws(-1), 1024);
        due("1 no image", x.restore(0), NextLife.STATE);
        due("1 no image", x.restore(1), NextLife.STATE);
    }

    private static void objectsAreApart() {
        String first = Edges.allSeen(new NextLife());
        Edges.made(Edges.BRIMMING);
        NextLife x = new NextLife();
        Edges.made(Edges.BANK);
        CHECK.isTrue("1 one object knows nothing of another", first.equals(Edges.allSeen(x)));
        due("1 nor of its images", x.restore(0), NextLife.STATE);
    }

    // birth: "A SOUL LIVES (or anew)"; "UNKNOWN; OUTSIDE"

    private static void soulsThatAreThere() {
        for (int soul = 0; soul < 8; soul++) {
            NextLife x = new NextLife();
            due("2 one lives", x.birth(soul, 1 << soul, soul), 1);
            due("2 it lives", x.told(1), 1 << soul);
            due("2 its marks", x.told(100 * (1 + soul)), 1 << soul);
            due("2 its purse", x.told(100 * (1 + soul) + 1), soul);
        }
    }

    private static void soulsThatAreNot() {
        for (int soul : Edges.outside(0, 7)) {
            EDGES.refusedAlways("2 soul " + soul, UNKNOWN, x -> x.birth(soul, 1, 1));
            EDGES.refusedAlways("2 soul ahead of the rest", UNKNOWN, x -> x.birth(soul, 256, -1));
        }
    }

    // "MARKS (bits 0 to 7), a PURSE (0 to 999)"

    private static void marksAndPurses() {
        NextLife x = new NextLife();
        due("2 least", x.birth(0, 0, 0), 1);
        due("2 most", x.birth(7, 255, 999), 2);
        due("2 least marks", x.told(100), 0);
        due("2 least purse", x.told(101), 0);
        due("2 most marks", x.told(800), 255);
        due("2 most purse", x.told(801), 999);
        for (int marks : Edges.outside(0, 255)) {
            EDGES.refusedAlways("2 marks " + marks, OUTSIDE, y -> y.birth(0, marks, 0));
            EDGES.refusedAlways("2 marks " + marks, OUTSIDE, y -> y.birth(7, marks, 999));
        }
        for (int purse : Edges.outside(0, 999)) {
            EDGES.refusedAlways("2 purse " + purse, OUTSIDE, y -> y.birth(0, 0, purse));
            EDGES.refusedAlways("2 purse " + purse, OUTSIDE, y -> y.birth(7, 255, purse));
        }
        EDGES.refusedAlways("2 both", OUTSIDE, y -> y.birth(4, Edges.LEAST, Edges.MOST));
    }

    // "how many LIVE"

    private static void eightSoulsLive() {
        NextLife x = new NextLife();
        for (int soul = 7; soul >= 0; soul--) {
            due("2 one more", x.birth(soul, 0, 0), 8 - soul);
        }
        due("2 all", x.told(1), 255);
        due("2 no more than eight", x.birth(3, 9, 9), 8);
        due("2 its new marks", x.told(400), 9);
    }

    // "it WAS nobody"

    private static void bornAnew() {
        NextLife x = new NextLife();
        x.birth(0, 255, 100);
        Check.act(x, "A>BB>C");
        due("2 was", x.told(302), 1);
        due("2 living, anew", x.birth(2, 3, 4), 1);
        due("2 was nobody", x.told(302), NONE);
        due("2 no chain", x.chain(2, 0), 0);
        due("2 the dead one still was another", x.told(202), 0);
        due("2 dead, anew", x.birth(1, 5, 6), 2);
        due("2 was nobody", x.told(202), NONE);
        due("2 marks anew", x.told(200), 5);
        due("2 purse anew", x.told(201), 6);
        due("2 year stays", x.told(2), 0);
    }

    // "nothing is OWED"

    private static void bornAnewOwesNothing() {
        NextLife x = new NextLife();
        for (int soul = 0; soul < 8; soul++) {
            x.birth(soul, 0, 50);
        }
        Check.act(x, "A=1BA=2CH=3AH=4BB=5AC=6H");
        due("2 eight live", x.birth(0, 0, 50), 8);
        for (int other = 1; other < 8; other++) {
            due("2 owes nothing", x.owes(0, other), 0);
            due("2 is owed nothing", x.owes(other, 0), 0);
        }
        due("2 others owe as before", x.owes(1, 7), 4);
        due("2 others owe as before", x.owes(7, 2), 6);
        due("2 purses of others stay", x.told(201), 50 + 1 + 4 - 5);
    }

    // box: "A BOX: which COINS it had. UNKNOWN; OUTSIDE."

    private static void boxesThatAreThere() {
        for (int box = 0; box < 6; box++) {
            NextLife x = new NextLife();
            due("3 had none", x.box(box, 1 << box, box, 999), 0);
            due("3 wants", x.told(10 * (1 + box)), 1 << box);
            due("3 hits", x.told(10 * (1 + box) + 1), box);
            due("3 coins", x.told(10 * (1 + box) + 2), 999);
            due("3 had the most", x.box(box, 0, 0, 1), 999);
            due("3 had one", x.box(box, 0, 0, 0), 1);
            due("3 had none again", x.box(box, 0, 0, 0), 0);
        }
    }

    private static void boxesThatAreNot() {
        for (int box : Edges.outside(0, 5)) {
            EDGES.refusedAlways("3 box " + box, UNKNOWN, x -> x.box(box, 1, 1, 1));
            EDGES.refusedAlways("3 box ahead of the rest", UNKNOWN, x -> x.box(box, 256, 9, -1));
        }
    }

    // "WANTS (MARKS, bits), HITS (0 to 8), COINS (0 to 999)"

    private static void wantsHitsAndCoins() {
        NextLife x = new NextLife();
        due("3 most", x.box(5, 255, 8, 999), 0);
        due("3 most wants", x.told(60), 255);
        due("3 most hits", x.told(61), 8);
        due("3 most coins", x.told(62), 999);
        due("3 least", x.box(5, 0, 0, 0), 999);
        due("3 least wants", x.told(60), 0);
        due("3 least hits", x.told(61), 0);
        due("3 least coins", x.told(62), 0);
        for (int wants : Edges.outside(0, 255)) {
            EDGES.refusedAlways("3 wants " + wants, OUTSIDE, y -> y.box(0, wants, 1, 1));
        }
        for (int hits : Edges.outside(0, 8)) {
            EDGES.refusedAlways("3 hits " + hits, OUTSIDE, y -> y.box(1, 1, hits, 1));
        }
        for (int coins : Edges.outside(0, 999)) {
            EDGES.refusedAlways("3 coins " + coins, OUTSIDE, y -> y.box(5, 1, 1, coins));
        }
        EDGES.refusedAlways("3 all three", OUTSIDE, y -> y.box(5, -1, 9, 1000));
    }

    private static void boxesBesideStay() {
        for (int box = 0; box < 6; box++) {
            NextLife x = new NextLife();
            for (int other = 0; other < 6; other++) {
                x.box(other, 17, 3, 40 + other);
            }
            x.box(box, 1, 2, 3);
            for (int other = 0; other < 6; other++) {
                due("3 wants beside", x.told(10 * (1 + other)), other == box ? 1 : 17);
                due("3 hits beside", x.told(10 * (1 + other) + 1), other == box ? 2 : 3);
                due("3 coins beside", x.told(10 * (1 + other) + 2), other == box ? 3 : 40 + other);
            }
        }
    }

    // say: "A sign more: how many. OUTSIDE; FULL."; "codes 33 to 126"

    private static void signsOnThePad() {
        for (int sign = 33; sign <= 126; sign++) {
            NextLife x = new NextLife();
            due("4 sign " + sign, x.say(sign), 1);
            due("4 it is there", x.told(0), 1);
        }
    }

    private static void signsOutside() {
        for (int sign : Edges.outside(33, 126)) {
            EDGES.refusedAlways("4 sign " + sign, OUTSIDE, x -> x.say(sign));
        }
        for (int sign = 0; sign < 33; sign++) {
            due("4 sign " + sign, new NextLife().say(sign), OUTSIDE);
        }
        for (int sign = 127; sign < 600; sign++) {
            due("4 sign " + sign, new NextLife().say(sign), OUTSIDE);
        }
    }

    // "a PAD (60 SIGNS at most)"

    private static void sixtySigns() {
        NextLife x = new NextLife();
        for (int i = 1; i <= 60; i++) {
            due("4 how many", x.say('.'), i);
        }
        due("4 the sixty-first", x.say('.'), NextLife.FULL);
        due("4 still sixty", x.told(0), 60);
        EDGES.refused(Edges.BRIMMING, "4 full", NextLife.FULL, y -> y.say('A'));
        EDGES.refused(Edges.BRIMMING, "4 full", NextLife.FULL, y -> y.say(33));
        EDGES.refused(Edges.BRIMMING, "4 full", NextLife.FULL, y -> y.say(126));
        EDGES.refused(Edges.BRIMMING, "4 outside ahead of full", OUTSIDE, y -> y.say(127));
        due("4 sixty acts", x.done(), 60);
        due("4 room again behind done", x.say('.'), 1);
    }

    // wipe: "Signs go: how many there were."

    private static void wiped() {
        NextLife x = Edges.made(Edges.BRIMMING);
        due("5 sixty", x.wipe(), 60);
        due("5 none", x.wipe(), 0);
        due("5 none are there", x.told(0), 0);
        due("5 no acts are left", x.done(), 0);
        due("5 room again", x.say('!'), 1);
        due("5 fault", x.fault(), 0);
        due("5 one", x.wipe(), 1);
        due("5 the fault goes too", x.fault(), NONE);
        due("5 purses stay", x.told(101), 999);
        due("5 years stay", x.told(2), 99);
        due("5 sights stay", x.told(3), 8);
    }

    // fault: "THE FAULT: the place (from 0 on) .. ; the number of signs, if more must come"; "NONE"

    private static void fault(String text, int want) {
        NextLife x = new NextLife();
        Check.write(x, text);
        due("6 signs of " + text, x.told(0), text.length());
        due("6 fault of " + text, x.fault(), want);
    }

    private static void faultsOfAFullPad() {
        fault(".".repeat(60), NONE);
        fault("A0".repeat(30), NONE);
        fault("A>B".repeat(20), NONE);
        fault("A=1B".repeat(15), NONE);
        fault(".".repeat(59) + "A", 60);
        fault(".".repeat(58) + "A>", 60);
        fault(".".repeat(58) + "A=", 60);
        fault(".".repeat(57) + "A=9", 60);
        fault(".".repeat(59) + "!", 59);
        fault(".".repeat(58) + "A6", 59);
        fault(".".repeat(57) + "A>I", 59);
        fault(".".repeat(57) + "A=0", 59);
        fault(".".repeat(56) + "A=1@", 59);
        fault("!".repeat(60), 0);
        fault("A".repeat(60), 1);
    }

    private static void moreMustCome() {
        for (String ahead : new String[] {"", ".", "A0", "H>A", "H=9A", "..A5B>C"}) {
            int signs = ahead.length();
            fault(ahead, NONE);
            for (String soul : "A B C D E F G H".split(" ")) {
                fault(ahead + soul, signs + 1);
                fault(ahead + soul + ">", signs + 2);
                fault(ahead + soul + "=", signs + 2);
                fault(ahead + soul + "=1", signs + 3);
                fault(ahead + soul + "=9", signs + 3);
            }
        }
    }

    private static void theFirstFaultIsTold() {
        fault("A6A6", 1);
        fault("I", 0);
        fault("@", 0);
        fault("A0I0I", 2);
        fault("A>1A", 2);
        fault("A=1.", 3);
        fault("A=A>", 2);
        fault("!A", 0);
    }

    private static void faultsAreOfSignsAlone() {
        // nobody lives, both are one, too many years: these are no faults
        fault("A0", NONE);
        fault("A>A", NONE);
        fault("H=9H", NONE);
        NextLife x = Edges.made(Edges.BRIMMING);
        Check.write(x, "....");
        due("6 too many years", x.fault(), NONE);
    }
}
