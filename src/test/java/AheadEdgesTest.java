/** The edges that the document names of days to come, BEST, FIT, JUDGED: promises 14 to 19, a sentence a test. */
public final class AheadEdgesTest {
    private static final int NONE = PotSchools.NONE, UNKNOWN = PotSchools.UNKNOWN, OUTSIDE = PotSchools.OUTSIDE;

    public static void main(String[] args) {
        aheadIsNowAndDays();
        aheadOfAllSubjects();
        aheadWithTheOthers();
        laterIsNowAndDays();
        laterWeight();
        enoughNow();
        enoughAtTheEnds();
        enoughFirst();
        enoughOfMuch();
        bestAtTheEnds();
        bestOfLikeOnes();
        bestWithinTheCoast();
        bestLeftThere();
        bestMooredAsItIs();
        bestAmongOthers();
        bestWithWhatIsKnown();
        fitOfFewerGrounds();
        fitNoTwoInOne();
        fitInFourDays();
        fitMooredAsTheyAre();
        fitWithWhatIsKnown();
        fitOfAll();
        judgeNumbers();
        judgeFigures();
        judgeDays();
        judgeSet();
        judgeMoored();
        judgePutBack();
        judgeKnows();
        judgeOtherFigures();
        judgeFirstPlace();
        judgeOneBehindAnother();
        Due.end();
    }

    // "IN n DAYS (0 to 20): what a CHILD knows of a SUBJECT"
    private static void aheadIsNowAndDays() {
        PotSchools x = Due.coast("ST4T0T4T1Gb00Cb2");
        PotSchools lived = Due.coast("ST4T0T4T1Gb00Cb2");
        for (int n = 0; n <= 20; n++) {
            Due.is("ahead(0, 0, " + n + ")", x.ahead(0, 0, n), lived.knows(0, 0));
            lived.day();
        }
        Due.is("ahead(0, 0, -1)", x.ahead(0, 0, -1), OUTSIDE);
        Due.is("ahead(0, 0, 21)", x.ahead(0, 0, 21), OUTSIDE);
    }

    private static void aheadOfAllSubjects() {
        PotSchools x = Due.coast("SGa41Ca0");
        for (int subject = 0; subject <= 4; subject++) {
            Due.is("ahead(0, " + subject + ", 1)", x.ahead(0, subject, 1), subject == 4 ? 3 : 0);
        }
        Due.is("ahead(0, 5, 1)", x.ahead(0, 5, 1), UNKNOWN);
        Due.is("ahead(0, -1, 1)", x.ahead(0, -1, 1), UNKNOWN);
        Due.is("ahead(1, 0, 1)", x.ahead(1, 0, 1), UNKNOWN);
    }

    /** The others' pots go too: a shy one is alone in d until they have come. */
    private static void aheadWithTheOthers() {
        PotSchools x = Due.coast("ST1Gd00Cd3Ca0");
        int[] known = {0, 1, 2, 2, 2};
        for (int n = 0; n < known.length; n++) {
            Due.is("ahead(0, 0, " + n + ") of a shy one", x.ahead(0, 0, n), known[n]);
        }
        x.moor(1);
        Due.is("ahead(0, 0, 4), the other moored", x.ahead(0, 0, 4), 4);
    }

    // "IN n DAYS: its CELL (what = 0)": 0 to 20.
    private static void laterIsNowAndDays() {
        PotSchools x = Due.coast("ST1T3T0T2Ca0");
        int[] cells = {0, 1, 5, 4};
        for (int n = 0; n <= 20; n++) {
            Due.is("later(0, " + n + ", 0)", x.later(0, n, 0), cells[n % 4]);
        }
        Due.is("later(0, -1, 0)", x.later(0, -1, 0), OUTSIDE);
        Due.is("later(0, 21, 0)", x.later(0, 21, 0), OUTSIDE);
        x.day();
        Due.is("later(0, 1, 0) from DAY 1", x.later(0, 1, 0), 5);
        x.moor(0);
        Due.is("later(0, 20, 0), moored", x.later(0, 20, 0), 1);
    }

    // "WEIGHT (1)": of all SUBJECTS, together.
    private static void laterWeight() {
        PotSchools x = Due.coast("ST1T0Gb00Ga11Ca0");
        int[] weights = {0, 1, 4, 5, 5, 6};
        for (int n = 0; n < weights.length; n++) {
            Due.is("later(0, " + n + ", 1)", x.later(0, n, 1), weights[n]);
        }
        Due.is("later(0, 20, 1)", x.later(0, 20, 1), 12);
        Due.is("later(0, 20, 2)", x.later(0, 20, 2), OUTSIDE);
        Due.is("later(0, 0, -1)", x.later(0, 0, -1), OUTSIDE);
        Due.is("later(1, 0, 0)", x.later(1, 0, 0), UNKNOWN);
    }

    // "0: now"
    private static void enoughNow() {
        PotSchools x = Due.coast("SGa01Gb03Ca0");
        x.day();
        for (int v = 1; v <= 3; v++) {
            Due.is("enough(0, 0, " + v + "), now", x.enough(0, 0, v), 0);
        }
        Due.is("enough(0, 0, 4), never", x.enough(0, 0, 4), NONE);
        x.set(0, 1);
        Due.is("enough(0, 0, 3), now, though a ghost is there", x.enough(0, 0, 3), 0);
    }

    // "in how many DAYS (1 to 20) ... NONE": the 20th day counts, the 21st does not.
    private static void enoughAtTheEnds() {
        PotSchools first = Due.coast("SGa00Ca0");
        Due.is("enough on the first day", first.enough(0, 0, 1), 1);
        // The dreamy one is at the weed on DAYS 3, 7, .. that are odd, and on even ones for nothing.
        PotSchools slow = Due.coast("ST4T0T4T1Gb00Cb2");
        Due.is("enough on the 20th day", slow.enough(0, 0, 5), 20);
        Due.is("not enough in 20 days", slow.enough(0, 0, 6), NONE);
        slow.day();
        Due.is("enough on the 19th day from then", slow.enough(0, 0, 5), 19);
        Due.is("not enough from then", slow.enough(0, 0, 6), NONE);
        Due.days(slow, 3);
        Due.is("now 4 days on: the sixth on the 20th", slow.enough(0, 0, 6), 20);
    }

    // "it knows v or more of a SUBJECT first": what it forgets behind that does not count.
    private static void enoughFirst() {
        PotSchools x = Due.coast("ST1T0Gb01Ga03Ca0");
        Due.is("enough(0, 0, 3)", x.enough(0, 0, 3), 1);
        Due.is("what it knows in two days", x.ahead(0, 0, 2), 2);
        Due.is("enough(0, 0, 1), more at once", x.enough(0, 0, 1), 1);
        Due.is("enough(0, 0, 4)", x.enough(0, 0, 4), NONE);
    }

    // "v (1 to 9)"
    private static void enoughOfMuch() {
        PotSchools x = Due.coast("SGa40Ca0");
        for (int v = 1; v <= 9; v++) {
            Due.is("enough(0, 4, " + v + ")", x.enough(0, 4, v), v);
        }
        Due.is("enough(0, 4, 0)", x.enough(0, 4, 0), OUTSIDE);
        Due.is("enough(0, 4, 10)", x.enough(0, 4, 10), OUTSIDE);
        Due.is("enough(0, 5, 1)", x.enough(0, 5, 1), UNKNOWN);
        Due.is("enough(1, 0, 1)", x.enough(1, 0, 1), UNKNOWN);
    }

    // "BEST for a CHILD and n DAYS (1 to 12)"
    private static void bestAtTheEnds() {
        PotSchools x = Due.coast("SGf00Gl01Ca0");
        Due.is("best(0, 1, 0)", x.best(0, 1, 0), 11);
        Due.is("best(0, 1, 1)", x.best(0, 1, 1), 3);
        Due.is("best(0, 2, 0)", x.best(0, 2, 0), 11);
        Due.is("best(0, 3, 0), alike", x.best(0, 3, 0), 5);
        Due.is("best(0, 4, 0)", x.best(0, 4, 0), 5);
        Due.is("best(0, 12, 0)", x.best(0, 12, 0), 5);
        Due.is("best(0, 12, 1)", x.best(0, 12, 1), 9);
        Due.is("best(0, 0, 0)", x.best(0, 0, 0), OUTSIDE);
        Due.is("best(0, 13, 0)", x.best(0, 13, 0), OUTSIDE);
        PotSchools dreamy = Due.coast("SGf00Ca2");
        Due.is("best(0, 11, 1) of a dreamy one", dreamy.best(0, 11, 1), 5);
        Due.is("best(0, 12, 1) of a dreamy one", dreamy.best(0, 12, 1), 6);
    }

    // "of like ones the least"
    private static void bestOfLikeOnes() {
        Due.is("best where nothing is taught", Due.coast("SCl0").best(0, 1, 0), 0);
        Due.is("how much", Due.coast("SCl0").best(0, 1, 1), 0);
        Due.is("of two weeds", Due.coast("SGk00Gj10Ca0").best(0, 5, 0), 9);
        Due.is("of a row that all drifts to d", Due.coast("ST1T1T1T1Gd01Cl0").best(0, 4, 0), 0);
    }

    // "CELLS are 0 to 11": none lies farther out, from where a tide could come in to i.
    private static void bestWithinTheCoast() {
        PotSchools x = Due.coast("ST2Gi00Gl01Ca0");
        Due.is("best, a tide that takes all in", x.best(0, 1, 0), 0);
        Due.is("how much", x.best(0, 1, 1), 0);
        PotSchools out = Due.coast("ST3Ga00Gd01Ca0");
        Due.is("best, a tide that takes all out", out.best(0, 1, 0), 0);
        Due.is("how much", out.best(0, 1, 1), 0);
    }

    // "SET there (or left there) now"
    private static void bestLeftThere() {
        PotSchools x = Due.coast("SGl00Cl0");
        Due.is("best where it is", x.best(0, 2, 0), 11);
        Due.is("how much", x.best(0, 2, 1), 2);
    }

    // "and MOORED as it is": not a GROUND's CELL only, where the tide takes it on.
    private static void bestMooredAsItIs() {
        PotSchools x = Due.coast("ST1T4T4T4Gb00Cl0");
        Due.is("best, not moored", x.best(0, 4, 0), 0);
        Due.is("how much", x.best(0, 4, 1), 4);
        x.moor(0);
        Due.is("best, moored", x.best(0, 4, 0), 1);
        Due.is("how much", x.best(0, 4, 1), 4);
    }

    /** The others go on as they are; a shy one looks for where none of them is. */
    private static void bestAmongOthers() {
        PotSchools x = Due.coast("SGa00Gb01Cl3Ca0Cb0");
        Due.is("best of a shy one, all taken", x.best(0, 5, 0), 0);
        Due.is("how much", x.best(0, 5, 1), 0);
        x.set(1, 5);
        Due.is("best of a shy one, a is free", x.best(0, 5, 0), 0);
        Due.is("how much", x.best(0, 5, 1), 5);
        Due.is("best of one that is not shy", x.best(2, 2, 0), 1);
    }

    // "it has most WEIGHT then": with all that it knows from before.
    private static void bestWithWhatIsKnown() {
        PotSchools x = Due.coast("SGa01Gb02Gc13Gd03Ca0");
        x.day();
        Due.is("best for one that knows 3", x.best(0, 1, 0), 1);
        Due.is("how much", x.best(0, 1, 1), 5);
        PotSchools ghosts = Due.coast("SGb00Ga03Gc03Cb0");
        ghosts.day();
        Due.is("a ghost is worse than nothing", ghosts.best(0, 1, 0), 1);
        PotSchools only = Due.coast("ST1Gb01Gc03Gd03Gg03Gh03Ca0");
        only.day();
        Due.is("where no ghost comes", only.best(0, 12, 0), 8);
        Due.is("what it keeps", only.best(0, 12, 1), 3);
    }

    // "NONE: there are fewer GROUNDS than CHILDREN"
    private static void fitOfFewerGrounds() {
        Due.is("no ground, nobody", Due.coast("S").fit(), 0);
        Due.is("no ground, one child", Due.coast("SCa0").fit(), NONE);
        Due.is("one ground, nobody", Due.coast("SGa00").fit(), 0);
        Due.is("one ground, one child", Due.coast("SGa00Cl0").fit(), 4);
        Due.is("one ground, two children", Due.coast("SGa00Cl0Ca0").fit(), NONE);
        Due.is("four grounds, five children", Due.coast("SGa00Gb00Gc00Gd00Ca0Cb0Cc0Cd0Ce0").fit(), NONE);
        Due.is("five grounds, five children", Due.coast("SGa00Gb00Gc00Gd00Ge00Ca0Ca0Ca0Ca0Ca0").fit(), 20);
    }

    // "no two in one": whichever of the GROUNDS is the good one.
    private static void fitNoTwoInOne() {
        Due.is("the good one first", Due.coast("SGa00Gb03Cl0Cl0").fit(), 4);
        Due.is("the good one last", Due.coast("SGa03Gb00Cl0Cl0").fit(), 4);
        Due.is("the good one third", Due.coast("SGa03Gb02Gc00Cl0Cl0Cl0").fit(), 4);
        Due.is("two good ones", Due.coast("SGa03Gb00Gc01Cl0Cl0").fit(), 7);
    }

    // "most WEIGHT in 4 DAYS"
    private static void fitInFourDays() {
        Due.is("weed", Due.coast("SGa00Cl0").fit(), 4);
        Due.is("dreamy on weed", Due.coast("SGa00Cl2").fit(), 2);
        PotSchools odd = Due.coast("SGa00Cl2");
        odd.day();
        Due.is("dreamy on weed from DAY 1", odd.fit(), 2);
        Due.is("quick on weed", Due.coast("SGa00Cl1").fit(), 8);
        Due.is("the quick one on weed, the plain one on a crab", Due.coast("SGa00Gb01Cl0Cl1").fit(), 11);
    }

    // "(MOORED as they are)"
    private static void fitMooredAsTheyAre() {
        PotSchools x = Due.coast("ST1Ga00Gb00Cl0Cl0");
        // From a by b alone, from b by none.
        Due.is("none moored", x.fit(), 1);
        x.moor(1);
        Due.is("one moored", x.fit(), 5);
        x.moor(0);
        Due.is("both moored", x.fit(), 8);
        x.moor(1);
        Due.is("the other moored", x.fit(), 5);
    }

    // "all CHILDREN together have most WEIGHT": what they know already counts.
    private static void fitWithWhatIsKnown() {
        PotSchools x = Due.coast("SGa01Gb02Ca0Cl0");
        x.day();
        Due.is("the one that knows 3 by the conger", x.fit(), 9 + 3);
        PotSchools ghost = Due.coast("SGa03Gb00Cb0");
        Due.days(ghost, 9);
        Due.is("it may be left there", ghost.fit(), 9);
        PotSchools lost = Due.coast("SGb00Gc03Cb0Cl0");
        Due.days(lost, 9);
        Due.is("one must go to the ghost, the one that knows nothing", lost.fit(), 9);
        lost.set(1, 1);
        Due.days(lost, 9);
        Due.is("one must go to the ghost, though it knows 9", lost.fit(), 9 + 5);
    }

    /** Six GROUNDS, five CHILDREN: all are at their most. */
    private static void fitOfAll() {
        PotSchools x = Due.coast("SGa03Gb00Gc00Gd00Ge01Gf02Cl0Cl1Cl2Cl3Cl0");
        // The dreamy one on the crab (3), the quick one on weed (8), two of the others on weed (4, 4), one is left
        // for the conger (0) or the ghost (0).
        Due.is("fit() of all", x.fit(), 3 + 8 + 4 + 4);
    }

    private static void judged(PotSchools x, int n, long row, int want) {
        Due.is("judge(" + n + ", " + row + ")", x.judge(n, row), want);
    }

    // "n doings (1 to 4)"
    private static void judgeNumbers() {
        PotSchools x = Due.coast("SGa00Ca0");
        judged(x, 0, 0, OUTSIDE);
        for (int n = 1; n <= 4; n++) {
            judged(x, n, 0, NONE);
        }
        judged(x, 5, 0, OUTSIDE);
        judged(x, -1, 0, OUTSIDE);
    }

    // "row (0 or more, 4 n figures at most)"
    private static void judgeFigures() {
        PotSchools x = Due.coast("SGa00Ca0");
        long most = 9999;
        for (int n = 1; n <= 4; n++) {
            judged(x, n, -1, OUTSIDE);
            judged(x, n, most, 0);
            judged(x, n, most + 1, OUTSIDE);
            most = most * 10000 + 9999;
        }
        judged(x, 4, Long.MAX_VALUE, OUTSIDE);
        judged(x, 4, Long.MIN_VALUE, OUTSIDE);
    }

    // "0, 0, 0, 0: A DAY": no other figures behind a 0.
    private static void judgeDays() {
        PotSchools x = Due.coast("SGa00Ca0");
        judged(x, 1, 0, NONE);
        judged(x, 1, 1, 0);
        judged(x, 1, 10, 0);
        judged(x, 1, 100, 0);
        judged(x, 1, 999, 0);
        judged(x, 2, 1, 1);
        judged(x, 4, 1, 3);
        judged(x, 4, 4003, NONE);
        judged(x, 4, 4004, 3);
        judged(new PotSchools(), 4, 0, NONE);
    }

    // "1, a CHILD, two figures of a CELL: SET": in another CELL, of 00 to 11.
    private static void judgeSet() {
        PotSchools x = Due.coast("SCa0Ca0Ca0Ca0Ca0");
        for (int cell = 0; cell < 100; cell++) {
            judged(x, 1, 1400 + cell, cell >= 1 && cell <= 11 ? NONE : 0);
        }
        judged(x, 1, 1000, 0);
        judged(x, 1, 1001, NONE);
        for (int child = 5; child <= 9; child++) {
            judged(x, 1, 1000 + 100 * child + 1, 0);
        }
    }

    // "2, 0, 0, a CHILD: MOORED": so, or not any more.
    private static void judgeMoored() {
        PotSchools x = Due.coast("ST1Gb00Ca0Ca0Ca0Ca0Ca0");
        for (int child = 0; child <= 9; child++) {
            judged(x, 1, 2000 + child, child <= 4 ? NONE : 0);
        }
        judged(x, 1, 2010, 0);
        judged(x, 1, 2100, 0);
        judged(x, 3, 200400004401L, 2);
        judged(x, 4, 2004200400004401L, NONE);
        x.moor(4);
        judged(x, 3, 200400004401L, NONE);
    }

    // "3, 0, 0, a CHILD: PUT BACK": of one that knows nothing it can not be.
    private static void judgePutBack() {
        PotSchools x = Due.coast("SGa00Ca0Cb0Ca0Ca0Ca0");
        for (int child = 0; child <= 9; child++) {
            judged(x, 1, 3000 + child, 0);
            judged(x, 2, 3000 + child, child <= 4 && child != 1 ? NONE : 1);
        }
        judged(x, 2, 3010, 1);
        judged(x, 2, 3100, 1);
        judged(x, 3, 30003000L, 2);
        judged(x, 4, 300000003000L, NONE);
    }

    // "4, a CHILD, a SUBJECT, v: it knows v or more"
    private static void judgeKnows() {
        PotSchools x = Due.coast("SGa41Ca0Ca0Ca0Ca0Ca0");
        x.day();
        for (int v = 0; v <= 9; v++) {
            judged(x, 1, 4440 + v, v <= 3 ? NONE : 0);
            judged(x, 1, 4400 + v, v == 0 ? NONE : 0);
        }
        for (int subject = 5; subject <= 9; subject++) {
            judged(x, 1, 4400 + 10 * subject, 0);
        }
        for (int child = 5; child <= 9; child++) {
            judged(x, 1, 4000 + 100 * child, 0);
        }
        PotSchools all = Due.coast("SGa00Ca0");
        Due.days(all, 9);
        judged(all, 1, 4009, NONE);
    }

    /** There is no doing that begins with 5 to 9. */
    private static void judgeOtherFigures() {
        PotSchools x = Due.coast("SGa00Ca0");
        x.day();
        for (int first = 5; first <= 9; first++) {
            judged(x, 1, 1000 * first, 0);
            judged(x, 2, 1000 * first, 1);
        }
    }

    // "the place of the first that can not be (or is not so); NONE: none."
    private static void judgeFirstPlace() {
        PotSchools x = Due.coast("SGa00Ca0");
        judged(x, 4, 5000000000000000L, 0);
        judged(x, 4, 500000000000L, 1);
        judged(x, 4, 50000000L, 2);
        judged(x, 4, 5000L, 3);
        judged(x, 4, 500050005000L, 1);
        judged(x, 4, 50005000L, 2);
        judged(x, 4, 0L, NONE);
    }

    /** Each is judged where those ahead of it have been done, and none is done in earnest. */
    private static void judgeOneBehindAnother() {
        PotSchools x = Due.coast("ST1Gb01Gc02Ca0");
        judged(x, 3, 4003L, NONE);
        judged(x, 3, 4005L, NONE);
        judged(x, 3, 4006L, 2);
        judged(x, 4, 1001100110021002L, 1);
        judged(x, 4, 1001100210011002L, NONE);
        judged(x, 4, 30001001L, NONE);
        judged(x, 4, 30001002L, 3);
        judged(x, 3, 10011000L, 1);
        judged(x, 3, 10021000L, NONE);
        Due.is("THE DAY", x.count(4), 0);
        Due.is("its CELL", x.child(0, 0), 0);
        Due.is("ACTS", x.count(10), 0);
    }
}
