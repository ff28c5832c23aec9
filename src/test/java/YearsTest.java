/** Promises 7 to 16: judge, done, behind, then, opens, two, chain, owes, netted, rings. */
public final class YearsTest {
    private static final Check CHECK = new Check();
    private static final int NONE = NextLife.NONE;

    public static void main(String[] args) {
        reasons();
        loanLimits();
        lastYear();
        judged();
        doneYears();
        behindYears();
        thenYears();
        purseLimits();
        openBoxes();
        chains();
        debts();
        rings();
        CHECK.end();
    }

    private static void due(String call, long got, long want) {
        CHECK.due(call, got, want);
    }

    private static NextLife bank() {
        NextLife x = new NextLife();
        x.birth(0, 7, 100);
        x.birth(1, 5, 50);
        x.box(0, 7, 2, 60);
        x.box(1, 5, 2, 40);
        x.box(2, 8, 1, 30);
        return x;
    }

    private static void reason(NextLife x, String text, int act, int why) {
        Check.write(x, text);
        due("7 act of " + text, x.judge(0), act);
        due("7 why of " + text, x.judge(1), why);
        due("8 done of " + text, act == NONE ? 0 : x.done(), act == NONE ? 0 : NextLife.NO);
    }

    private static void reasons() {
        NextLife x = bank();
        reason(x, "", NONE, NONE);
        reason(x, "A2", NONE, NONE);
        reason(x, "C0", 0, 1);
        reason(x, "C>D", 0, 1);
        reason(x, "C>C", 0, 1);
        reason(x, "C=1A", 0, 1);
        reason(x, "C=1C", 0, 1);
        reason(x, "A>A", 0, 2);
        reason(x, "A=1A", 0, 2);
        reason(x, "A>B", 0, 3);
        reason(x, "A>C", NONE, NONE);
        reason(x, "A=1C", 0, 3);
        reason(x, "A=1B", NONE, NONE);
        reason(x, ".A0.A>CA0", 4, 1);
        reason(x, "A>CC>AA>C", NONE, NONE);
        reason(x, "A>CA>D", 1, 1);
        reason(x, "A>CB>C", 1, 3);
        x.birth(2, 0, 0);
        reason(x, "C=1A", 0, 4);
        reason(x, "A=1CC=1A", NONE, NONE);
        reason(x, "A=1CC=2A", 1, 4);
        reason(x, "C=9D", 0, 3);
    }

    /** A pair owes 999 at most, and the purse goes to 0 but no further. */
    private static void loanLimits() {
        NextLife x = new NextLife();
        x.birth(0, 0, 999);
        x.birth(1, 0, 0);
        for (int i = 0; i < 11; i++) {
            due("8 loans", Check.act(x, "A=9BA=9BA=9BA=9BA=9BA=9BA=9BA=9BA=9BA=9B"), 10);
        }
        due("14 owed", x.owes(1, 0), 990);
        due("8 back", Check.act(x, "B=9A"), 1);
        due("8 up to the limit", Check.act(x, "A=9B"), 1);
        due("14 owed", x.owes(1, 0), 999);
        reason(x, "A=1B", 0, 4);
        reason(x, "B=1A", NONE, NONE);
        NextLife y = new NextLife();
        y.birth(0, 0, 5);
        y.birth(1, 0, 0);
        reason(y, "A=6B", 0, 4);
        reason(y, "A=5B", NONE, NONE);
    }

    private static void lastYear() {
        NextLife x = new NextLife();
        String years = ".................................................";
        due("8 years", Check.act(x, years), 49);
        due("8 years", Check.act(x, years), 49);
        due("29 year", x.told(2), 98);
        reason(x, "..", 1, 5);
        reason(x, ".", NONE, NONE);
        due("8 the last", Check.act(x, "."), 1);
        due("29 year", x.told(2), 99);
        reason(x, ".", 0, 5);
        x.birth(0, 0, 0);
        reason(x, "A0", NONE, NONE);
        due("10 year", x.then(1), 99);
    }

    private static void judged() {
        NextLife x = bank();
        due("7 what -1", x.judge(-1), NextLife.OUTSIDE);
        due("7 what 2", x.judge(2), NextLife.OUTSIDE);
        Check.write(x, "A");
        due("7 outside ahead of no", x.judge(2), NextLife.OUTSIDE);
        due("7 fault", x.judge(0), NextLife.NO);
        due("7 fault", x.judge(1), NextLife.NO);
        Check.write(x, "C0A!");
        due("7 fault behind a bad act", x.judge(0), NextLife.NO);
    }

    private static void doneYears() {
        NextLife x = bank();
        due("8 empty", x.done(), 0);
        due("8 acts", Check.act(x, "A0.A=5BB1"), 4);
        due("8 pad", x.told(0), 0);
        due("8 year", x.told(2), 1);
        due("8 purse", x.told(101), 155);
        due("8 other purse", x.told(201), 95);
        due("8 box", x.told(12), 0);
        due("8 box", x.told(22), 0);
        due("8 untried box", x.told(32), 30);
        Check.write(x, "A=5BC0");
        String was = Check.snapshot(x);
        due("8 bad act", x.done(), NextLife.NO);
        CHECK.isTrue("8 nothing changed", was.equals(Check.snapshot(x)));
        Check.write(x, "A=5BA");
        was = Check.snapshot(x);
        due("8 fault", x.done(), NextLife.NO);
        CHECK.isTrue("8 nothing changed", was.equals(Check.snapshot(x)));
        due("8 pad stays", x.wipe(), 5);
    }

    private static void behind(NextLife x, int soul, int lives, int marks, int purse, int was) {
        due("9 lives", x.behind(soul, 0), lives);
        due("9 marks", x.behind(soul, 1), marks);
        due("9 purse", x.behind(soul, 2), purse);
        due("9 was", x.behind(soul, 3), was);
    }

    private static void behindYears() {
        NextLife x = bank();
        x.birth(7, 0, 1);
        Check.write(x, "A=1BA>C.C>DB1H>G");
        behind(x, 0, 0, 0, 0, NONE);
        behind(x, 1, 1, 5, 91, NONE);
        behind(x, 2, 0, 0, 0, 0);
        behind(x, 3, 1, 4, 24, 2);
        behind(x, 6, 1, 0, 0, 7);
        behind(x, 7, 0, 0, 0, NONE);
        due("9 not done", x.told(1), 131);
        due("9 soul -1", x.behind(-1, 0), NextLife.UNKNOWN);
        due("9 soul 8", x.behind(8, 4), NextLife.UNKNOWN);
        due("9 what -1", x.behind(0, -1), NextLife.OUTSIDE);
        due("9 what 4", x.behind(0, 4), NextLife.OUTSIDE);
        Check.write(x, "F0");
        due("9 soul ahead of no", x.behind(8, 0), NextLife.UNKNOWN);
        due("9 what ahead of no", x.behind(0, 4), NextLife.OUTSIDE);
        due("9 bad act", x.behind(0, 0), NextLife.NO);
        Check.write(x, "F");
        due("9 fault", x.behind(0, 3), NextLife.NO);
    }

    private static void thenYears() {
        NextLife x = bank();
        Check.write(x, ".A0A0.B2A2B>H");
        due("10 lives", x.then(0), 129);
        due("10 year", x.then(1), 2);
        due("10 tries", x.then(2), 2);
        due("10 the other", x.then(3), 4);
        due("10 not done", x.told(2), 0);
        due("10 what -1", x.then(-1), NextLife.OUTSIDE);
        due("10 what 4", x.then(4), NextLife.OUTSIDE);
        Check.write(x, "A0");
        due("10 none", x.then(3), NONE);
        Check.write(x, "F0");
        due("10 what ahead of no", x.then(4), NextLife.OUTSIDE);
        due("10 bad act", x.then(0), NextLife.NO);
        Check.write(x, "!");
        due("10 fault", x.then(1), NextLife.NO);
        // an empty box opens too
        x.box(0, 7, 2, 0);
        Check.write(x, "A0");
        due("10 empty box", x.then(2), 1);
    }

    private static void purseLimits() {
        NextLife x = new NextLife();
        x.birth(0, 1, 998);
        x.birth(1, 0, 9);
        x.box(0, 1, 1, 5);
        due("8 full purse", Check.act(x, "B=1A"), 1);
        due("8 999", x.told(101), 999);
        due("8 one more", Check.act(x, "B=1A"), 1);
        due("8 lost", x.told(101), 999);
        due("8 given", x.told(201), 7);
        due("8 owed all the same", x.owes(0, 1), 2);
        due("8 coins lost", Check.act(x, "A0"), 1);
        due("8 999", x.told(101), 999);
        due("8 box empty", x.told(12), 0);
        due("8 half of 999", Check.act(x, "A>D"), 1);
        due("8 cut", x.told(401), 499);
        due("8 last mark goes", x.told(400), 0);
        due("8 none to go", Check.act(x, "D>E"), 1);
        due("8 none", x.told(500), 0);
    }

    private static void openBoxes() {
        NextLife x = bank();
        due("11 two", x.opens(0), 3);
        due("11 none", x.opens(2), 0);
        due("11 box -1", x.opens(-1), NextLife.UNKNOWN);
        due("11 box 6", x.opens(6), NextLife.UNKNOWN);
        due("12 both", x.two(), 3);
        x.box(0, 7, 3, 60);
        due("11 one", x.opens(0), 1);
        due("12 one fewer", x.two(), 2);
        x.box(5, 0, 0, 0);
        due("11 no hits", x.opens(5), 3);
        due("12 last box", x.two(), 34);
        x.box(5, 0, 1, 0);
        due("11 nothing wanted", x.opens(5), 0);
        Check.act(x, "B>H");
        due("11 dead one", x.opens(1), 1);
        x.box(4, 0, 0, 0);
        due("11 the living", x.opens(4), 129);
    }

    private static void chains() {
        NextLife x = bank();
        due("13 none", x.chain(0, 0), 0);
        due("13 none", x.chain(0, 1), NONE);
        due("13 nobody", x.chain(7, 0), 0);
        Check.act(x, "A>CC>DD>E");
        due("13 three", x.chain(4, 0), 3);
        due("13 last", x.chain(4, 1), 0);
        due("13 dead one", x.chain(3, 0), 2);
        due("13 first", x.chain(0, 1), NONE);
        Check.act(x, "E>A");
        due("13 round", x.chain(0, 0), 3);
        due("13 round's last", x.chain(0, 1), 2);
        due("13 round from within", x.chain(2, 1), 3);
        Check.act(x, "A>H");
        due("13 into a round", x.chain(7, 0), 4);
        due("13 into a round's last", x.chain(7, 1), 2);
        x.birth(3, 0, 0);
        due("13 cut", x.chain(7, 0), 3);
        due("13 cut's last", x.chain(7, 1), 3);
        due("13 soul -1", x.chain(-1, 0), NextLife.UNKNOWN);
        due("13 soul 8", x.chain(8, 2), NextLife.UNKNOWN);
        due("13 what -1", x.chain(0, -1), NextLife.OUTSIDE);
        due("13 what 2", x.chain(0, 2), NextLife.OUTSIDE);
    }

    private static void debts() {
        NextLife x = bank();
        x.birth(2, 0, 9);
        Check.act(x, "A=9BA=2CC=4B");
        due("14 owes", x.owes(1, 0), 9);
        due("14 not the other way", x.owes(0, 1), 0);
        due("14 owes", x.owes(2, 0), 2);
        due("14 both ways", Check.act(x, "B=1A"), 1);
        due("14 the other way", x.owes(0, 1), 1);
        due("14 stays", x.owes(1, 0), 9);
        due("15 first", x.netted(0), 10010);
        due("15 second", x.netted(1), 9988);
        due("15 third", x.netted(2), 10002);
        due("15 nobody", x.netted(7), 10000);
        Check.act(x, "B>H");
        due("14 moved", x.owes(7, 0), 9);
        due("14 moved", x.owes(7, 2), 4);
        due("14 is owed", x.owes(0, 7), 1);
        due("14 no more", x.owes(1, 0), 0);
        due("14 no more", x.owes(0, 1), 0);
        due("15 moved", x.netted(7), 9988);
        due("15 gone", x.netted(1), 10000);
        due("14 soul -1", x.owes(-1, 0), NextLife.UNKNOWN);
        due("14 soul 8", x.owes(8, 0), NextLife.UNKNOWN);
        due("14 other -1", x.owes(0, -1), NextLife.UNKNOWN);
        due("14 other 8", x.owes(0, 8), NextLife.UNKNOWN);
        due("14 both one", x.owes(3, 3), NextLife.UNKNOWN);
        due("15 soul -1", x.netted(-1), NextLife.UNKNOWN);
        due("15 soul 8", x.netted(8), NextLife.UNKNOWN);
    }

    private static void rings() {
        NextLife x = new NextLife();
        for (int soul = 0; soul < 8; soul++) {
            x.birth(soul, 0, 99);
        }
        due("16 none", x.rings(), 0);
        Check.act(x, "A=1BB=1CC=1DD=1EE=1FF=1GG=1H");
        due("16 a line", x.rings(), 0);
        x.image(0);
        Check.act(x, "H=1A");
        due("16 all eight", x.rings(), 255);
        x.restore(0);
        Check.act(x, "D=1B");
        due("16 three of them", x.rings(), 14);
        Check.act(x, "G=1F");
        due("16 two rings", x.rings(), 110);
        due("16 two", Check.act(x, "B=1A"), 1);
        due("16 joined", x.rings(), 111);
    }
}
