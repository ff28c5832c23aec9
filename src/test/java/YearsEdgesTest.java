/** The edges of promises 7 and 8: judge, done, and why an act can not be. */
public final class YearsEdgesTest {
    private static final Check CHECK = new Check();
    private static final Edges EDGES = new Edges(CHECK);
    private static final int NONE = NextLife.NONE, OUTSIDE = NextLife.OUTSIDE;
    private static final int NO = NextLife.NO;

    public static void main(String[] args) {
        judgedOutside();
        judgedWithAFault();
        noActs();
        theFirstSoulDoesNotLive();
        bothAreOne();
        theSecondSoul();
        thePurseIsTooSmall();
        theMostThatIsOwed();
        theLastYear();
        theFirstActIsTold();
        actsAreJudgedBehindOthers();
        doneRefused();
        doneWithEachFault();
        allOrNothing();
        sixtyActs();
        CHECK.end();
    }

    private static void due(String call, long got, long want) {
        CHECK.due(call, got, want);
    }

    /** A has marks and coins, B neither; nobody else lives. */
    private static NextLife pair(int purse) {
        NextLife x = new NextLife();
        x.birth(0, 7, purse);
        x.birth(1, 0, 0);
        return x;
    }

    private static void judged(NextLife x, String text, int act, int why) {
        Check.write(x, text);
        due("7 act of " + text, x.judge(0), act);
        due("7 why of " + text, x.judge(1), why);
    }

    // judge: "the ACT (what = 0), why (1); NONE. OUTSIDE; NO: there is a FAULT."

    private static void judgedOutside() {
        for (int what : Edges.outside(0, 1)) {
            EDGES.refusedAlways("7 what " + what, OUTSIDE, x -> x.judge(what));
        }
    }

    private static void judgedWithAFault() {
        EDGES.refused(Edges.FAULTY, "7 the act", NO, x -> x.judge(0));
        EDGES.refused(Edges.FAULTY, "7 why", NO, x -> x.judge(1));
        // a fault behind an act that can not be
        judged(new NextLife(), "A0!", NO, NO);
        judged(new NextLife(), "A0A", NO, NO);
    }

    private static void noActs() {
        judged(new NextLife(), "", NONE, NONE);
        judged(Edges.made(Edges.BANK), "", NONE, NONE);
        judged(Edges.made(Edges.BRIMMING), "", NONE, NONE);
    }

    // "An ACT can not be for the least of these reasons: 1 the first SOUL does not LIVE"

    private static void theFirstSoulDoesNotLive() {
        NextLife x = pair(9);
        for (String text : new String[] {"C0", "H5", "C>D", "C=1A", "C>C", "C=1C", "C>A", "C=1D", "C=9A"}) {
            judged(x, text, 0, 1);
        }
        judged(x, "A0", NONE, NONE);
        judged(x, "B5", NONE, NONE);
        judged(x, "A>CA0", 1, 1);
        judged(x, "A>CA>D", 1, 1);
        judged(x, "A>CA=1B", 1, 1);
    }

    // "2 both are one"

    private static void bothAreOne() {
        NextLife x = pair(9);
        for (String text : new String[] {"A>A", "A=1A", "B>B", "B=9B"}) {
            judged(x, text, 0, 2);
        }
        for (int soul = 0; soul < 8; soul++) {
            char letter = (char) ('A' + soul);
            NextLife y = new NextLife();
            y.birth(soul, 1, 9);
            judged(y, letter + ">" + letter, 0, 2);
            judged(y, letter + "=1" + letter, 0, 2);
        }
    }

    // "3 the second one LIVES already (>), does not LIVE (=)"

    private static void theSecondSoul() {
        NextLife x = pair(9);
        judged(x, "A>B", 0, 3);
        judged(x, "A>C", NONE, NONE);
        judged(x, "A>H", NONE, NONE);
        judged(x, "A=1C", 0, 3);
        judged(x, "A=1B", NONE, NONE);
        // no coins, and nobody to give them to
        judged(x, "B=1C", 0, 3);
        judged(x, "A>CB>C", 1, 3);
        judged(x, "A>CB>A", NONE, NONE);
        judged(x, "A>CB=1A", 1, 3);
    }

    // "4 the PURSE is too small"

    private static void thePurseIsTooSmall() {
        for (int coins = 1; coins <= 9; coins++) {
            judged(pair(coins - 1), "A=" + coins + "B", 0, 4);
            judged(pair(coins), "A=" + coins + "B", NONE, NONE);
            judged(pair(999), "A=" + coins + "B", NONE, NONE);
            NextLife x = pair(coins);
            due("8 done", Check.act(x, "A=" + coins + "B"), 1);
            due("8 nothing is left", x.told(101), 0);
            due("8 all is there", x.told(201), coins);
            due("14 all is owed", x.owes(1, 0), coins);
            due("14 nothing the other way", x.owes(0, 1), 0);
        }
        judged(pair(0), "A=1B", 0, 4);
        judged(pair(9), "A=9BA=1B", 1, 4);
    }

    // "or more than 999 would be OWED (=)"; "coins that are OWED (0 to 999)"

    /** B owes A 990 behind 110 loans of 9 coins; the box opens to all. */
    private static NextLife deepInDebt() {
        NextLife x = pair(990);
        x.box(0, 0, 0, 999);
        for (int page = 0; page < 7; page++) {
            writeOn(x, "A=9B".repeat(15));
            x.done();
        }
        writeOn(x, "A=9B".repeat(5));
        x.done();
        return x;
    }

    /** Without a call to wipe, as calls are few. */
    private static void writeOn(NextLife x, String text) {
        for (int i = 0; i < text.length(); i++) {
            x.say(text.charAt(i));
        }
    }

    private static void theMostThatIsOwed() {
        NextLife x = deepInDebt();
        due("14 owed", x.owes(1, 0), 990);
        due("15 is owed", x.netted(0), 10990);
        judged(x, "A0A=8BA=1BA=1B", 3, 4);
        judged(x, "A0A=9B", NONE, NONE);
        due("8 the most", x.done(), 2);
        due("14 the most", x.owes(1, 0), 999);
        due("15 most", x.netted(0), 10999);
        due("15 least", x.netted(1), 9001);
        NextLife y = deepInDebt();
        due("8 one less", Check.act(y, "A0A=8B"), 2);
        writeOn(y, "A=2B");
        due("7 two more", y.judge(0), 0);
        due("7 two more", y.judge(1), 4);
        due("8 two more", y.done(), NO);
        due("14 as before", y.owes(1, 0), 998);
        due("8 one more", Check.act(y, "A=1B"), 1);
        due("14 the most", y.owes(1, 0), 999);
        judged(y, "A=1B", 0, 4);
        judged(y, "B=1A", NONE, NONE);
        // a debt moves as it is, and so does its limit
        judged(y, "B>CA=1C", 1, 4);
    }

    // "5 it is YEAR 99 (.)"

    private static void theLastYear() {
        NextLife x = new NextLife();
        Edges.passYears(x, 98);
        due("29 year", x.told(2), 98);
        judged(x, ".", NONE, NONE);
        judged(x, "..", 1, 5);
        due("8 refused", x.done(), NO);
        due("29 year stays", x.told(2), 98);
        Check.write(x, ".");
        due("10 the last year", x.then(1), 99);
        due("8 it ends", x.done(), 1);
        due("29 the last year", x.told(2), 99);
        judged(x, ".", 0, 5);
        x.birth(0, 1, 1);
        judged(x, "A0A>B", NONE, NONE);
        due("8 other acts can be", x.done(), 2);
        due("29 year stays", x.told(2), 99);
    }

    // "JUDGED: of YEARS the first ACT (from 0 on) that can not be, and why"

    private static void theFirstActIsTold() {
        judged(pair(0), "C0A=1BA>AA>B", 0, 1);
        judged(pair(0), "A=1BC0A>A", 0, 4);
        judged(pair(0), "A0.A>BC0", 2, 3);
        judged(pair(0), "A0.A>CC>C", 3, 2);
        NextLife x = new NextLife();
        Edges.passYears(x, 40);
        judged(x, ".".repeat(60), 59, 5);
        NextLife y = new NextLife();
        Edges.passYears(y, 39);
        judged(y, ".".repeat(60), NONE, NONE);
        due("8 the last year", y.done(), 60);
        due("29 the last year", y.told(2), 99);
    }

    private static void actsAreJudgedBehindOthers() {
        judged(pair(5), "A=5BB=5AA=5B", NONE, NONE);
        judged(pair(5), "A=5BA=1B", 1, 4);
        judged(pair(5), "A>CC=2B", NONE, NONE);
        judged(pair(5), "A>CC=3B", 1, 4);
        NextLife x = pair(0);
        x.box(0, 7, 3, 9);
        judged(x, "A0A=9B", NONE, NONE);
        judged(x, "A>CC0C=1B", 2, 4);
    }

    // done: "(it is empty then): ACTS. NO: there is a FAULT, or an ACT that can not be."

    private static void doneRefused() {
        EDGES.refused(Edges.FAULTY, "8 a fault", NO, x -> x.done());
        EDGES.refused(Edges.BARRED, "8 a bad act", NO, x -> x.done());
    }

    /** Texts that would be done if a fault were overlooked: a try of no box, a gift of no coins. */
    private static void doneWithEachFault() {
        String[] texts = {"A", "A6", "A9", "A/", "A=0B", "A=:B", "A>", "A>I", "A=", "A=1", "A=1I", "!", "AA0", ".A",
            "A0A", ".A>", "A0!", "a0", "A.", "A>C0", ".,"};
        for (String text : texts) {
            NextLife x = pair(50);
            x.birth(7, 255, 999);
            x.box(0, 0, 0, 7);
            Check.write(x, text);
            String ahead = Check.snapshot(x);
            due("7 " + text, x.judge(0), NO);
            due("8 " + text, x.done(), NO);
            due("9 " + text, x.behind(0, 0), NO);
            due("10 " + text, x.then(0), NO);
            CHECK.isTrue("8 nothing has changed by " + text, ahead.equals(Check.snapshot(x)));
        }
    }

    private static void allOrNothing() {
        NextLife x = pair(50);
        x.box(0, 0, 0, 7);
        String text = ".A0A=9BB=1AA>HB>B";
        Check.write(x, text);
        due("8 the last act can not be", x.done(), NO);
        due("8 signs stay", x.told(0), text.length());
        due("8 who live", x.told(1), 3);
        due("8 year", x.told(2), 0);
        due("8 coins", x.told(12), 7);
        due("8 purse", x.told(101), 50);
        due("8 other purse", x.told(201), 0);
        due("8 was", x.told(802), NONE);
        due("8 owed", x.owes(1, 0) + x.owes(0, 1), 0);
        Check.write(x, text.substring(0, text.length() - 3));
        due("8 without it", x.done(), 5);
        due("8 signs are gone", x.told(0), 0);
        due("8 who live", x.told(1), 130);
        due("8 nothing twice", x.done(), 0);
        due("8 year", x.told(2), 1);
    }

    private static void sixtyActs() {
        NextLife x = new NextLife();
        due("8 none", x.done(), 0);
        due("8 sixty", Check.act(x, ".".repeat(60)), 60);
        due("8 year", x.told(2), 60);
        due("8 one", Check.act(x, "."), 1);
        NextLife y = pair(0);
        due("8 thirty tries", Check.act(y, "A0".repeat(30)), 30);
        due("8 twenty lives", Check.act(y, "A>CC>A".repeat(10)), 20);
    }
}
