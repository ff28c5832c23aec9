/** The edges of promises 17 to 20: note, only, share, match. */
public final class ClaimsEdgesTest {
    private static final Check CHECK = new Check();
    private static final Edges EDGES = new Edges(CHECK);
    private static final int NONE = NextLife.NONE, UNKNOWN = NextLife.UNKNOWN, OUTSIDE = NextLife.OUTSIDE;

    public static void main(String[] args) {
        noteUnknown();
        noteOutside();
        notesOfNoMarks();
        notesThatNobodyElseFollows();
        notesThatAnotherFollows();
        theLeastOfAsFew();
        onlyUnknown();
        onlyTheLeastHits();
        onlyNone();
        shareUnknown();
        shareOfNothing();
        shareOfOneCoin();
        shareOfTheMost();
        whatIsOver();
        sharesAreAllThereIs();
        matchUnknown();
        matchOfNobody();
        matchOfEmptyBoxes();
        matchOfTheMost();
        matchOfOneSoul();
        matchInTheFirstWay();
        CHECK.end();
    }

    private static void due(String call, long got, long want) {
        CHECK.due(call, got, want);
    }

    private static NextLife souls(int... marks) {
        NextLife x = new NextLife();
        for (int soul = 0; soul < marks.length; soul++) {
            x.birth(soul, marks[soul], 50);
        }
        return x;
    }

    // note: "UNKNOWN: it does not LIVE; OUTSIDE."

    private static void noteUnknown() {
        for (int soul : Edges.outside(0, 7)) {
            EDGES.refusedAlways("17 soul " + soul, UNKNOWN, x -> x.note(soul, 0));
            EDGES.refusedAlways("17 soul ahead of what", UNKNOWN, x -> x.note(soul, 2));
        }
        for (int soul = 0; soul < 8; soul++) {
            int one = soul;
            EDGES.refused(Edges.NEW, "17 nobody lives", UNKNOWN, x -> x.note(one, 0));
            EDGES.refused(Edges.NEW, "17 soul ahead of what", UNKNOWN, x -> x.note(one, -1));
        }
        for (int soul = 2; soul < 7; soul++) {
            int one = soul;
            EDGES.refused(Edges.BANK, "17 does not live", UNKNOWN, x -> x.note(one, 1));
        }
    }

    private static void noteOutside() {
        for (int what : Edges.outside(0, 1)) {
            EDGES.refusedWithSouls("17 what " + what, OUTSIDE, x -> x.note(0, what));
            EDGES.refusedWithSouls("17 what " + what, OUTSIDE, x -> x.note(7, what));
        }
    }

    private static void note(NextLife x, int soul, int many, int which) {
        due("17 how many", x.note(soul, 0), many);
        due("17 which", x.note(soul, 1), which);
    }

    // "the fewest of a SOUL's MARKS which no other one that LIVES has all"

    private static void notesOfNoMarks() {
        for (int soul = 0; soul < 8; soul++) {
            NextLife x = new NextLife();
            x.birth(soul, 255, 0);
            note(x, soul, 0, 0);
            x.birth(soul, 0, 0);
            note(x, soul, 0, 0);
            x.birth((soul + 1) % 8, 0, 0);
            note(x, soul, NONE, NONE);
        }
        NextLife x = souls(3, 3);
        note(x, 1, NONE, NONE);
        Check.act(x, "A>C");
        note(x, 1, 1, 1);
        note(x, 2, NONE, NONE);
    }

    private static void notesThatNobodyElseFollows() {
        for (int mark = 0; mark < 8; mark++) {
            note(souls(255, 255 - (1 << mark)), 0, 1, 1 << mark);
            note(souls(1 << mark, 0), 0, 1, 1 << mark);
        }
        note(souls(254, 252, 250, 246, 238, 222, 190, 126), 0, 7, 254);
        note(souls(255, 254, 253, 251, 247, 239, 223, 191), 0, 7, 127);
        note(souls(3, 1, 2), 0, 2, 3);
        note(souls(192, 128, 64), 0, 2, 192);
    }

    private static void notesThatAnotherFollows() {
        note(souls(255, 255), 0, NONE, NONE);
        note(souls(1, 255), 0, NONE, NONE);
        note(souls(0, 255), 0, NONE, NONE);
        note(souls(255, 0, 0, 0, 0, 0, 0, 255), 7, NONE, NONE);
        note(souls(254, 0, 0, 0, 0, 0, 0, 255), 7, 1, 1);
    }

    // "which, least as bits of as few"

    private static void theLeastOfAsFew() {
        note(souls(255, 0), 0, 1, 1);
        note(souls(254, 0), 0, 1, 2);
        note(souls(128, 0), 0, 1, 128);
        note(souls(15, 12, 3), 0, 2, 5);
        note(souls(255, 240, 15), 0, 2, 17);
        // 1 and 2 together are less than 4, but they are two
        note(souls(7, 1, 2), 0, 1, 4);
    }

    // only: "UNKNOWN: both (a SOUL that does not LIVE, too)."

    private static void onlyUnknown() {
        for (int box : Edges.outside(0, 5)) {
            EDGES.refusedAlways("18 box " + box, UNKNOWN, x -> x.only(box, 0));
            EDGES.refusedAlways("18 box and soul " + box, UNKNOWN, x -> x.only(box, -1));
        }
        for (int soul : Edges.outside(0, 7)) {
            EDGES.refusedAlways("18 soul " + soul, UNKNOWN, x -> x.only(0, soul));
            EDGES.refusedAlways("18 soul " + soul, UNKNOWN, x -> x.only(5, soul));
        }
        for (int soul = 2; soul < 7; soul++) {
            int one = soul;
            EDGES.refused(Edges.NEW, "18 nobody lives", UNKNOWN, x -> x.only(5, one));
            EDGES.refused(Edges.BANK, "18 does not live", UNKNOWN, x -> x.only(0, one));
        }
    }

    // "the least HITS (0 to 8) for which a BOX, WANTS as now, would OPEN to a SOUL alone"

    private static void onlyTheLeastHits() {
        for (int soul = 0; soul < 8; soul++) {
            NextLife x = new NextLife();
            x.birth(soul, 0, 0);
            for (int box = 0; box < 6; box++) {
                due("18 who lives alone", x.only(box, soul), 0);
            }
        }
        for (int had = 0; had <= 8; had++) {
            for (int others = 0; others <= 8; others++) {
                NextLife x = souls((1 << others) - 1, (1 << had) - 1);
                x.box(5, 255, 8, 0);
                due("18 " + had + " and " + others, x.only(5, 1), had > others ? others + 1 : NONE);
            }
        }
        NextLife x = souls(255, 1, 127, 3);
        x.box(0, 255, 0, 0);
        due("18 above the best of the others", x.only(0, 0), 8);
    }

    // "NONE"

    private static void onlyNone() {
        NextLife x = souls(255, 255);
        for (int hits = 0; hits <= 8; hits++) {
            x.box(0, 255, hits, 0);
            due("18 both alike", x.only(0, 0), NONE);
        }
        x.box(0, 0, 0, 0);
        due("18 wants nothing", x.only(0, 0), NONE);
        Check.act(x, "B>H");
        x.box(0, 255, 1, 0);
        due("18 one mark more", x.only(0, 0), 8);
        due("18 one mark fewer", x.only(0, 7), NONE);
    }

    // share: "UNKNOWN, likewise."

    private static void shareUnknown() {
        for (int box : Edges.outside(0, 5)) {
            EDGES.refusedAlways("19 box " + box, UNKNOWN, x -> x.share(box, 0));
            EDGES.refusedAlways("19 box and soul " + box, UNKNOWN, x -> x.share(box, -1));
        }
        for (int soul : Edges.outside(0, 7)) {
            EDGES.refusedAlways("19 soul " + soul, UNKNOWN, x -> x.share(0, soul));
            EDGES.refusedAlways("19 soul " + soul, UNKNOWN, x -> x.share(5, soul));
        }
        for (int soul = 2; soul < 7; soul++) {
            int one = soul;
            EDGES.refused(Edges.NEW, "19 nobody lives", UNKNOWN, x -> x.share(5, one));
            EDGES.refused(Edges.BANK, "19 does not live", UNKNOWN, x -> x.share(0, one));
        }
    }

    // "SHARE (0: it has none of them, too)"

    private static void shareOfNothing() {
        NextLife x = souls(15, 240, 0);
        for (int hits = 0; hits <= 8; hits += 4) {
            x.box(0, 15, hits, 999);
            due("19 who has all, whatever the hits", x.share(0, 0), 999);
            due("19 who has other marks", x.share(0, 1), 0);
            due("19 who has no marks", x.share(0, 2), 0);
            x.box(0, 0, hits, 999);
            due("19 nothing is wanted", x.share(0, 0), 0);
            x.box(0, 255, hits, 0);
            due("19 an empty box", x.share(0, 0), 0);
        }
        x.box(5, 0, 0, 999);
        x.birth(7, 255, 0);
        due("19 nobody feels any", x.share(5, 7), 0);
    }

    private static void shareOfOneCoin() {
        NextLife x = souls(7, 7, 15, 0, 15, 255, 255, 7);
        x.box(5, 255, 8, 1);
        for (int soul = 0; soul < 8; soul++) {
            due("19 who has most, the least of them", x.share(5, soul), soul == 5 ? 1 : 0);
        }
    }

    private static void shareOfTheMost() {
        NextLife x = souls(255, 255, 255, 255, 255, 255, 255, 255);
        x.box(0, 255, 0, 999);
        for (int soul = 0; soul < 8; soul++) {
            due("19 999 by eight", x.share(0, soul), soul < 7 ? 125 : 124);
        }
        x.box(0, 255, 0, 8);
        for (int soul = 0; soul < 8; soul++) {
            due("19 nothing is over", x.share(0, soul), 1);
        }
        x.box(0, 255, 0, 7);
        for (int soul = 0; soul < 8; soul++) {
            due("19 one too few", x.share(0, soul), soul < 7 ? 1 : 0);
        }
        due("19 one claims", souls(1).share(0, 0), 0);
        NextLife y = souls(128);
        y.box(0, 255, 8, 999);
        due("19 one claims, for one mark", y.share(0, 0), 999);
    }

    // "what is over one each from who has most on (of several the least)"

    private static void whatIsOver() {
        // by 1, 2, 2, 1 of 6: 11 coins are 1, 3, 3, 1 and three over
        NextLife x = souls(1, 3, 12, 4);
        x.box(1, 15, 1, 11);
        int[] want = {2, 4, 4, 1};
        for (int soul = 0; soul < 4; soul++) {
            due("19 three over", x.share(1, soul), want[soul]);
        }
        x.box(1, 15, 1, 10);
        int[] fewer = {1, 4, 4, 1};
        for (int soul = 0; soul < 4; soul++) {
            due("19 two over", x.share(1, soul), fewer[soul]);
        }
        x.box(1, 15, 1, 12);
        int[] even = {2, 4, 4, 2};
        for (int soul = 0; soul < 4; soul++) {
            due("19 none over", x.share(1, soul), even[soul]);
        }
    }

    private static void sharesAreAllThereIs() {
        for (int coins = 0; coins <= 999; coins += 37) {
            NextLife x = souls(1, 7, 254, 16, 0, 33, 255, 240);
            x.box(3, 243, 8, coins);
            int sum = 0;
            for (int soul = 0; soul < 8; soul++) {
                sum += x.share(3, soul);
            }
            due("19 together", sum, coins);
            due("19 nothing is taken", x.told(42), coins);
        }
    }

    // match: "UNKNOWN: it does not LIVE."

    private static void matchUnknown() {
        for (int soul : Edges.outside(-1, 7)) {
            EDGES.refusedAlways("20 soul " + soul, UNKNOWN, x -> x.match(soul));
        }
        for (int soul = 0; soul < 8; soul++) {
            int one = soul;
            EDGES.refused(Edges.NEW, "20 nobody lives", UNKNOWN, x -> x.match(one));
        }
        for (int soul = 2; soul < 7; soul++) {
            int one = soul;
            EDGES.refused(Edges.BANK, "20 does not live", UNKNOWN, x -> x.match(one));
        }
    }

    private static void matchOfNobody() {
        NextLife x = new NextLife();
        for (int box = 0; box < 6; box++) {
            x.box(box, 0, 0, 999);
        }
        due("20 nobody", x.match(-1), 0);
        NextLife y = souls(0, 255);
        y.box(0, 1, 1, 999);
        due("20 one gets in", y.match(-1), 999);
        due("20 none for the one", y.match(0), NONE);
        due("20 the box for the other", y.match(1), 0);
    }

    private static void matchOfEmptyBoxes() {
        NextLife x = souls(0, 0, 0, 0, 0, 0, 0, 0);
        for (int box = 0; box < 6; box++) {
            x.box(box, 0, 0, 0);
        }
        due("20 no coins", x.match(-1), 0);
        for (int soul = 0; soul < 8; soul++) {
            due("20 none behind all boxes", x.match(soul), soul < 6 ? soul : NONE);
        }
    }

    private static void matchOfTheMost() {
        NextLife x = souls(0, 0, 0, 0, 0, 0, 0, 0);
        for (int box = 0; box < 6; box++) {
            x.box(box, 0, 0, 999);
        }
        due("20 all that can be", x.match(-1), 5994);
        Check.act(x, "A0");
        due("20 one box less", x.match(-1), 4995);
        NextLife y = new NextLife();
        y.birth(6, 255, 0);
        y.birth(7, 255, 0);
        y.box(4, 255, 8, 999);
        y.box(5, 255, 8, 998);
        due("20 the last two", y.match(-1), 1997);
        due("20 the last but one", y.match(6), 4);
        due("20 the last", y.match(7), 5);
    }

    // "each one at most, each BOX once"

    private static void matchOfOneSoul() {
        NextLife x = souls(1);
        for (int box = 0; box < 6; box++) {
            x.box(box, 1, 1, 10 * box);
            due("20 the dearest", x.match(-1), 10 * box);
            due("20 the dearest", x.match(0), box);
        }
        x.box(2, 1, 1, 50);
        due("20 of two the least", x.match(0), 2);
        x.box(2, 1, 2, 999);
        due("20 one that does not open", x.match(0), 5);
        NextLife y = souls(1, 1);
        y.box(3, 1, 1, 7);
        due("20 a box once", y.match(-1), 7);
        due("20 for the first", y.match(0), 3);
        due("20 none is left", y.match(1), NONE);
    }

    // "in the first such way (SOUL 0's least BOX, then SOUL 1's, and so on; none, NONE, behind all)"

    private static void matchInTheFirstWay() {
        NextLife x = souls(3, 1, 2);
        x.box(0, 1, 1, 5);
        x.box(1, 2, 1, 5);
        due("20 two boxes", x.match(-1), 10);
        due("20 the first soul's least", x.match(0), 0);
        due("20 nothing for the second", x.match(1), NONE);
        due("20 the third", x.match(2), 1);
        x.box(2, 1, 1, 5);
        due("20 three boxes", x.match(-1), 15);
        due("20 the first soul's least", x.match(0), 0);
        due("20 then the second's", x.match(1), 2);
        due("20 then the third's", x.match(2), 1);
        x.box(0, 3, 2, 1);
        x.box(1, 3, 2, 2);
        x.box(2, 3, 1, 3);
        due("20 most coins ahead of the least box", x.match(-1), 5);
        due("20 the first", x.match(0), 1);
        due("20 the second", x.match(1), 2);
        due("20 the third", x.match(2), NONE);
    }
}
