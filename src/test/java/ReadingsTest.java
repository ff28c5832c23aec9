/**
 * The sentences of the document that could be read in two ways, each with runs in which the reading
 * that was not taken would answer something else. NOTES.md says why the one was taken.
 */
public final class ReadingsTest {
    private static final Check CHECK = new Check();
    private static final int NONE = NextLife.NONE, NO = NextLife.NO;

    public static void main(String[] args) {
        whoDiesKeepsWhoItWas();
        whoComesBackWasTheNewerOne();
        whoDiesHasNoMarksAndNoPurse();
        aBirthLeavesOthers();
        aBirthAmongDebts();
        theImageKeepsWhoWasWhom();
        thePadIsNotKept();
        whatIsJudgedBehindARestore();
        oneWhoLivesAlone();
        emptyBoxesAheadOfNone();
        anotherTry();
        debtsArePairs();
        CHECK.end();
    }

    private static void due(String call, long got, long want) {
        CHECK.due(call, got, want);
    }

    private static NextLife souls(int... marks) {
        NextLife x = new NextLife();
        for (int soul = 0; soul < marks.length; soul++) {
            x.birth(soul, marks[soul], 100);
        }
        return x;
    }

    // "(it dies, and comes back as that one, who .. WAS it ..)": nothing is said of who it WAS itself; and the
    // CHAIN, "who it WAS, who that one WAS, ..", goes through souls that are dead

    private static void whoDiesKeepsWhoItWas() {
        NextLife x = souls(255);
        Check.write(x, "A>BB>CC>D");
        due("9 A was nobody", x.behind(0, 3), NONE);
        due("9 B, dead, was A", x.behind(1, 3), 0);
        due("9 C, dead, was B", x.behind(2, 3), 1);
        due("9 D was C", x.behind(3, 3), 2);
        due("8 done", x.done(), 3);
        due("29 B, dead, was A", x.told(202), 0);
        due("29 C, dead, was B", x.told(302), 1);
        due("13 D's chain", x.chain(3, 0), 3);
        due("13 D's chain ends with A", x.chain(3, 1), 0);
        due("13 a dead one's chain", x.chain(2, 0), 2);
        due("13 a dead one's chain ends with A", x.chain(2, 1), 0);
    }

    private static void whoComesBackWasTheNewerOne() {
        NextLife x = souls(255, 255);
        due("8 B lives twice", Check.act(x, "A>CB>DC>B"), 3);
        due("29 B was C, not nobody", x.told(202), 2);
        due("29 C was A", x.told(302), 0);
        due("29 D was B", x.told(402), 1);
        due("13 D, B, C, A", x.chain(3, 0), 3);
        due("13 D, B, C, A", x.chain(3, 1), 0);
    }

    // "(MARKS, PURSE of who does not LIVE: 0.)": of these two alone

    private static void whoDiesHasNoMarksAndNoPurse() {
        NextLife x = souls(255);
        Check.write(x, "A>BB>C");
        due("9 marks", x.behind(1, 1), 0);
        due("9 purse", x.behind(1, 2), 0);
        due("9 who it was is told", x.behind(1, 3), 0);
        x.done();
        due("29 marks", x.told(200), 0);
        due("29 purse", x.told(201), 0);
        due("29 who it was is told", x.told(202), 0);
    }

    // birth: "it WAS nobody, nothing is OWED": said of that SOUL, of nobody else

    private static void aBirthLeavesOthers() {
        NextLife x = souls(255);
        Check.act(x, "A>BB>C");
        due("2 A lives anew", x.birth(0, 1, 1), 2);
        due("29 B still was A", x.told(202), 0);
        due("13 C, B, A", x.chain(2, 0), 2);
        due("2 B lives anew", x.birth(1, 1, 1), 3);
        due("29 B was nobody", x.told(202), NONE);
        due("29 C still was B", x.told(302), 1);
        due("13 C, B", x.chain(2, 0), 1);
        due("13 C, B", x.chain(2, 1), 1);
        Check.write(x, "A>D");
        due("9 C still was B", x.behind(2, 3), 1);
        due("9 D was A", x.behind(3, 3), 0);
    }

    private static void aBirthAmongDebts() {
        NextLife x = souls(1, 1, 1);
        due("8 loans", Check.act(x, "A=1BB=2CC=3A"), 3);
        x.birth(1, 1, 7);
        due("14 what it owed", x.owes(1, 0), 0);
        due("14 what it was owed", x.owes(2, 1), 0);
        due("14 what others owe", x.owes(0, 2), 3);
        due("29 purses of others", x.told(101), 102);
        due("29 purses of others", x.told(301), 99);
    }

    // image: "All but the PAD is kept"

    private static void theImageKeepsWhoWasWhom() {
        NextLife x = souls(255, 255);
        Check.act(x, "A=5BA>C.C>D");
        x.seen(9, true);
        x.image(1);
        x.birth(2, 0, 0);
        x.birth(3, 0, 0);
        x.forget();
        Check.act(x, ".");
        due("28 restored", x.restore(1), 1);
        due("28 a dead one was A", x.told(302), 0);
        due("28 D was C", x.told(402), 2);
        due("28 C does not live", x.told(1), 10);
        due("28 what is owed", x.owes(1, 3), 5);
        due("28 the year", x.told(2), 1);
        due("28 sights", x.told(3), 1);
    }

    // restore: "It is as it was when it was kept": the PAD was not kept, so it stays as it is

    private static void thePadIsNotKept() {
        NextLife x = souls(1);
        Check.write(x, "A0");
        x.image(0);
        x.wipe();
        due("28 restored", x.restore(0), 1);
        due("28 signs do not come back", x.told(0), 0);
        Check.write(x, "A>B");
        due("28 restored", x.restore(0), 1);
        due("28 signs do not go", x.told(0), 3);
        due("28 it is the text that was there", x.behind(1, 3), 0);
        Check.write(x, "A=");
        due("28 restored", x.restore(0), 1);
        due("28 a fault stays", x.fault(), 2);
        due("28 a sign more", x.say('1'), 3);
    }

    private static void whatIsJudgedBehindARestore() {
        NextLife x = new NextLife();
        x.image(0);
        x.birth(0, 1, 1);
        Check.write(x, "A>B");
        due("7 it can be", x.judge(0), NONE);
        x.restore(0);
        due("7 nobody lives", x.judge(0), 0);
        due("7 nobody lives", x.judge(1), 1);
        due("8 nobody lives", x.done(), NO);
        due("8 the text stays", x.told(0), 3);
    }

    // "MARKS which no other one that LIVES has all": without others no mark is needed

    private static void oneWhoLivesAlone() {
        NextLife x = souls(255);
        due("17 no marks", x.note(0, 0), 0);
        due("17 no marks", x.note(0, 1), 0);
        due("18 no hits", x.only(0, 0), 0);
        x.birth(1, 0, 0);
        due("17 one", x.note(0, 0), 1);
        due("18 no mark is wanted, both alike", x.only(0, 0), NONE);
        Check.act(x, "A>CB>D");
        due("17 the dead do not count", x.note(3, 0), NONE);
        due("17 the dead do not count", x.note(2, 1), 2);
    }

    // "(SOUL 0's least BOX, ..; none, NONE, behind all)": an empty BOX comes ahead of none

    private static void emptyBoxesAheadOfNone() {
        NextLife x = souls(1, 1);
        x.box(3, 1, 1, 0);
        x.box(2, 1, 1, 9);
        due("20 coins", x.match(-1), 9);
        due("20 A's least box", x.match(0), 2);
        due("20 B's, though it is empty", x.match(1), 3);
    }

    // "the first ACT that is another try": one that no BOX OPENED to

    private static void anotherTry() {
        NextLife x = souls(1);
        x.box(0, 1, 1, 0);
        Check.write(x, "A0.A0A1");
        due("10 a box opened, though it was empty", x.then(2), 2);
        due("10 the fourth act", x.then(3), 3);
    }

    // "A SOUL OWES another one coins (0 to 999 ..)": the limit is of the one to the other, not of all together

    private static void debtsArePairs() {
        NextLife x = new NextLife();
        x.birth(0, 0, 999);
        x.birth(1, 0, 0);
        x.birth(2, 0, 999);
        // 56 loans of 9 coins from A and from C, without a call to wipe, as calls are few
        for (int page = 0; page < 8; page++) {
            for (char sign : "A=9BC=9B".repeat(7).toCharArray()) {
                x.say(sign);
            }
            due("8 fourteen loans", x.done(), 14);
        }
        due("14 B owes A", x.owes(1, 0), 504);
        due("14 B owes C", x.owes(1, 2), 504);
        due("15 more than 999 together", x.netted(1), 10000 - 1008);
        due("8 and the other way", Check.act(x, "B=9AA=9B"), 2);
        due("14 A owes B", x.owes(0, 1), 9);
        due("14 B owes A as much as before, and more", x.owes(1, 0), 513);
    }
}
