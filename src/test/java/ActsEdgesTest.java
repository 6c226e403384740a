import java.util.ArrayList;
import java.util.List;

/** The edges that the document names of WAYS, A DAY and ACTS: promises 9 to 13, a sentence a test. */
public final class ActsEdgesTest {
    private static final int UNKNOWN = PotSchools.UNKNOWN, STATE = PotSchools.STATE;
    private static final String CELLS = "abcdefghijkl";

    public static void main(String[] args) {
        withinTheRow();
        inAndOut();
        stillOrNoTide();
        tidesGoRound();
        mooredPotsStay();
        allGoBeforeAnyLearns();
        stayingTheyLearn();
        weed();
        crab();
        conger();
        ghost();
        quickOnMore();
        quickOnNoMore();
        dreamyByTheDay();
        shyByCompany();
        eachItsSubject();
        dayOfNobody();
        setEdges();
        moorEdges();
        putEdges();
        undoOfEach();
        fourteenActs();
        rowGoesRound();
        whatIsNoAct();
        rowIsEmptied();
        Due.end();
    }

    private static void goes(int way, int from, int to) {
        PotSchools x = Due.coast("ST" + way + "C" + CELLS.charAt(from) + "0");
        x.day();
        Due.is("way " + way + " from cell " + from, x.child(0, 0), to);
    }

    // "0 left (1 less), 1 right (1 more), within the ROW": no pot goes round into another ROW.
    private static void withinTheRow() {
        for (int row = 0; row < 3; row++) {
            int first = 4 * row;
            goes(0, first, first);
            goes(0, first + 1, first);
            goes(0, first + 3, first + 2);
            goes(1, first + 3, first + 3);
            goes(1, first + 2, first + 3);
            goes(1, first, first + 1);
        }
    }

    // "2 in (4 less), 3 out (4 more)": from the ROW near the shore none goes in, from far out none out.
    private static void inAndOut() {
        for (int column = 0; column < 4; column++) {
            goes(2, column, column);
            goes(2, column + 4, column);
            goes(2, column + 8, column + 4);
            goes(3, column, column + 4);
            goes(3, column + 4, column + 8);
            goes(3, column + 8, column + 8);
        }
    }

    // "4 still"; "(none: still ...)"
    private static void stillOrNoTide() {
        for (int cell = 0; cell < 12; cell++) {
            goes(4, cell, cell);
            PotSchools x = Due.coast("SC" + CELLS.charAt(cell) + "0");
            x.day();
            Due.is("no tide from cell " + cell, x.child(0, 0), cell);
        }
    }

    // "the TIDE that is left of THE DAY by how many there are"
    private static void tidesGoRound() {
        String tides = "T1T3T0T2";
        int[] ways = {1, 3, 0, 2};
        for (int many = 1; many <= 4; many++) {
            String told = tides.substring(0, 2 * many);
            PotSchools x = Due.coast("S" + told + "Ca0");
            for (int day = 0; day < 13; day++) {
                Due.is(told + ": way of day " + day, x.count(9), ways[day % many]);
                x.day();
            }
        }
        PotSchools round = Due.coast("ST1T3T0T2Ca0");
        int[] cells = {1, 5, 4, 0, 1, 5, 4, 0, 1};
        for (int day = 0; day < cells.length; day++) {
            round.day();
            Due.is("four tides: cell behind day " + day, round.child(0, 0), cells[day]);
        }
    }

    // "each pot that is not MOORED goes"
    private static void mooredPotsStay() {
        PotSchools x = Due.coast("ST1Ca0Ca0Ca0Ca0Ca0");
        x.moor(0);
        x.moor(4);
        x.day();
        int[] cells = {0, 1, 1, 1, 0};
        for (int child = 0; child < 5; child++) {
            Due.is("cell of child " + child, x.child(child, 0), cells[child]);
        }
        x.moor(0);
        x.day();
        Due.is("let go again", x.child(0, 0), 1);
        Due.is("moored still", x.child(4, 0), 0);
    }

    // "in this order: (a) ... (b) ...": the shy one ahead in number sees where the others have gone to.
    private static void allGoBeforeAnyLearns() {
        PotSchools parted = Due.coast("ST1Gb00Ca3Cb0");
        Due.is("the other one has gone on", parted.day(), 1);
        Due.is("the shy one knows it", parted.knows(0, 0), 1);
        PotSchools met = Due.coast("ST1Gd00Cd3Cc0");
        Due.is("the other one has come", met.day(), 1);
        Due.is("the shy one learned nothing", met.knows(0, 0), 0);
        PotSchools from = Due.coast("ST1Ga00Ca0");
        Due.is("none learns where it was", from.day(), 0);
    }

    // "where there is no such CELL it stays": and learns there.
    private static void stayingTheyLearn() {
        PotSchools x = Due.coast("ST1Gd00Cc0");
        for (int day = 1; day <= 3; day++) {
            Due.is("day() at the edge", x.day(), day);
        }
    }

    /** A plain or quick child that knows so much of SUBJECT 0, by weed in a, in b of the KIND. */
    private static PotSchools knowing(int childKind, int groundKind, int weedDays) {
        PotSchools x = Due.coast("SGa00Gb0" + groundKind + "Ca" + childKind);
        Due.days(x, weedDays);
        x.set(0, 1);
        return x;
    }

    private static void learns(String what, int childKind, int groundKind, int weedDays, int want) {
        PotSchools x = knowing(childKind, groundKind, weedDays);
        int was = x.knows(0, 0);
        x.day();
        Due.is(what + ", knowing " + was, x.knows(0, 0), want);
    }

    // "WEED 1"; "9 at most"
    private static void weed() {
        for (int known = 0; known <= 8; known++) {
            learns("weed", 0, 0, known, known + 1);
        }
        learns("weed", 0, 0, 9, 9);
    }

    // "CRAB 3, but only if it knows nothing of it"
    private static void crab() {
        learns("crab", 0, 1, 0, 3);
        for (int known = 1; known <= 9; known++) {
            learns("crab", 0, 1, known, known);
        }
        PotSchools x = Due.coast("SGa01Gb03Ca0");
        x.day();
        x.set(0, 1);
        Due.days(x, 3);
        x.set(0, 0);
        Due.is("crab, when a ghost has taken all", x.day(), 3);
        x.put(0);
        Due.is("crab, when put back", x.day(), 3);
    }

    // "CONGER 2, but only if it knows 3 or more of it"; "9 at most"
    private static void conger() {
        int[] then = {0, 1, 2, 5, 6, 7, 8, 9, 9, 9};
        for (int known = 0; known <= 9; known++) {
            learns("conger", 0, 2, known, then[known]);
        }
    }

    // "GHOST: 1 less"; "0 at least"
    private static void ghost() {
        learns("ghost", 0, 3, 0, 0);
        for (int known = 1; known <= 9; known++) {
            learns("ghost", 0, 3, known, known - 1);
        }
    }

    // "QUICK: 1 more where it is more at all"; "9 at most"
    private static void quickOnMore() {
        int[] known = {0, 2, 4, 6, 8, 9};
        int[] weed = {2, 4, 6, 8, 9, 9};
        int[] conger = {0, 2, 7, 9, 9, 9};
        for (int days = 0; days < known.length; days++) {
            learns("quick on weed", 1, 0, days, weed[days]);
            learns("quick on conger", 1, 2, days, conger[days]);
        }
        learns("quick on crab", 1, 1, 0, 4);
    }

    // "... where it is more at all": not on a crab or conger that teaches nothing, not on a ghost.
    private static void quickOnNoMore() {
        int[] known = {0, 2, 4, 6, 8, 9};
        for (int days = 1; days < known.length; days++) {
            learns("quick on crab", 1, 1, days, known[days]);
            learns("quick on ghost", 1, 3, days, known[days] - 1);
        }
        learns("quick on ghost", 1, 3, 0, 0);
        PotSchools x = Due.coast("SGa00Gb03Gc02Ca1");
        Due.days(x, 2);
        x.set(0, 1);
        x.day();
        x.set(0, 2);
        Due.is("quick on conger, knowing 3", x.day(), 6);
    }

    // "a DREAMY one only if THE DAY is odd": THE DAY that is before it is one more.
    private static void dreamyByTheDay() {
        for (int kind = 0; kind < 4; kind++) {
            PotSchools x = Due.coast("SGa0" + kind + "Ca2");
            x.day();
            Due.is("dreamy on DAY 0, kind " + kind, x.count(8), 0);
            x.day();
            Due.is("dreamy on DAY 1, kind " + kind, x.count(8), kind == 0 ? 1 : kind == 1 ? 3 : 0);
        }
        PotSchools ghost = Due.coast("SGa01Gb03Ca2");
        Due.days(ghost, 2);
        ghost.set(0, 1);
        Due.is("dreamy with a ghost on DAY 2", ghost.day(), 3);
        Due.is("dreamy with a ghost on DAY 3", ghost.day(), 2);
        ghost.undo();
        Due.is("dreamy with a ghost on DAY 3 again", ghost.day(), 2);
    }

    // "a SHY one only if no other CHILD is in its CELL": of whatever KIND, moored or not.
    private static void shyByCompany() {
        for (int kind = 0; kind < 4; kind++) {
            PotSchools x = Due.coast("SGa00Ca3Ca" + kind);
            x.moor(1);
            x.day();
            Due.is("shy one with one of kind " + kind, x.knows(0, 0), 0);
            x.set(1, 1);
            x.day();
            Due.is("shy one without it", x.knows(0, 0), 1);
        }
        PotSchools last = Due.coast("SGa00Ca0Cb0Cb0Cb0Ca3");
        Due.is("the last one shy, the first one there", last.day(), 1);
        last.set(0, 1);
        Due.is("the last one alone", last.day(), 2);
        PotSchools ghost = Due.coast("SGa00Gb03Ca3Cb0");
        ghost.day();
        ghost.set(0, 1);
        ghost.day();
        Due.is("in company a ghost takes nothing from it", ghost.knows(0, 0), 1);
        ghost.set(1, 5);
        ghost.day();
        Due.is("alone it does", ghost.knows(0, 0), 0);
    }

    // "how much more it knows of the GROUND's SUBJECT"
    private static void eachItsSubject() {
        PotSchools x = Due.coast("SGa01Gb12Gc43Gd40Ca0");
        x.day();
        x.set(0, 1);
        Due.is("a conger of another subject", x.day(), 3);
        x.set(0, 2);
        Due.is("a ghost of another subject", x.day(), 3);
        x.set(0, 3);
        Due.is("weed of the last subject", x.day(), 4);
        Due.is("knows(0, 0)", x.knows(0, 0), 3);
        Due.is("knows(0, 1)", x.knows(0, 1), 0);
        Due.is("knows(0, 4)", x.knows(0, 4), 1);
    }

    // "WEIGHTS of all CHILDREN together then"; "THE DAY is one more."
    private static void dayOfNobody() {
        PotSchools x = Due.coast("ST1Ga00");
        for (int day = 1; day <= 3; day++) {
            Due.is("day() of nobody", x.day(), 0);
            Due.is("THE DAY", x.count(4), day);
        }
        PotSchools five = Due.coast("SGa01Gb00Ca0Ca1Ca0Cb0Cb1");
        Due.is("day() of five", five.day(), 3 + 4 + 3 + 1 + 2);
    }

    // "SET: the CELL where it was. UNKNOWN: both; STATE: it is there."
    private static void setEdges() {
        PotSchools x = Due.coast("SCa0Ca0Ca0Ca0Ca0");
        Due.is("set(4, 11)", x.set(4, 11), 0);
        Due.is("set(4, 0)", x.set(4, 0), 11);
        Due.is("set(4, 0), it is there", x.set(4, 0), STATE);
        Due.is("set(0, 0), it is there at first", x.set(0, 0), STATE);
        Due.is("set(0, 12)", x.set(0, 12), UNKNOWN);
        Due.is("set(0, -1)", x.set(0, -1), UNKNOWN);
        Due.is("set(5, 1)", x.set(5, 1), UNKNOWN);
        Due.is("ACTS", x.count(10), 2);
        PotSchools kept = Due.coast("ST1Gb00Ca0");
        kept.moor(0);
        Due.is("set of a moored one", kept.set(0, 1), 0);
        kept.day();
        Due.is("it is moored there", kept.child(0, 0), 1);
        kept.set(0, 7);
        Due.is("what it knows it keeps", kept.knows(0, 0), 1);
        Due.is("THE DAY is no more by it", kept.count(4), 1);
    }

    // "MOORED: 1 if it is so then, 0. UNKNOWN."
    private static void moorEdges() {
        PotSchools x = Due.coast("SCa0Ca0Ca0Ca0Ca0");
        for (int child = 0; child < 5; child++) {
            Due.is("moor(" + child + ")", x.moor(child), 1);
        }
        Due.is("all are moored", x.count(7), 31);
        Due.is("moor(4), not any more", x.moor(4), 0);
        Due.is("moor(0), not any more", x.moor(0), 0);
        Due.is("three are moored", x.count(7), 14);
        Due.is("moor(0), once more", x.moor(0), 1);
        Due.is("moor(5)", x.moor(5), UNKNOWN);
        Due.is("moor(-1)", x.moor(-1), UNKNOWN);
        Due.is("ACTS", x.count(10), 8);
    }

    // "PUT BACK: its WEIGHT. UNKNOWN; STATE: that is 0."
    private static void putEdges() {
        PotSchools x = Due.coast("SGa00Gb41Ca0Ca0Ca0Ca0Ca0");
        Due.is("put(4), knowing nothing", x.put(4), STATE);
        x.day();
        x.set(4, 1);
        x.moor(4);
        x.day();
        Due.is("put(4)", x.put(4), 4);
        Due.is("it knows nothing of 0", x.knows(4, 0), 0);
        Due.is("it knows nothing of 4", x.knows(4, 4), 0);
        Due.is("put(4) again", x.put(4), STATE);
        Due.is("the others know what they knew", x.count(8), 8);
        Due.is("it is where it was", x.child(4, 0), 1);
        Due.is("it is moored as it was", x.child(4, 2), 1);
        Due.is("THE DAY is as it was", x.count(4), 2);
        Due.is("put(0), of WEIGHT 2", x.put(0), 2);
        Due.is("put(5)", x.put(5), UNKNOWN);
        Due.is("ACTS", x.count(10), 6);
        PotSchools one = Due.coast("SGa00Ca0");
        one.day();
        Due.is("put(0), of WEIGHT 1", one.put(0), 1);
    }

    // "The last ACT is undone: how many are left. STATE: there is none."
    private static void undoOfEach() {
        PotSchools x = Due.coast("ST1T3Gb01Ca0Cl0");
        Due.is("undo() of none", x.undo(), STATE);
        x.day();
        Due.is("undo() of A DAY", x.undo(), 0);
        Due.is("THE DAY", x.count(4), 0);
        Due.is("the tide", x.count(9), 1);
        Due.is("its cell", x.child(0, 0), 0);
        Due.is("what it knew", x.count(8), 0);
        x.set(1, 0);
        Due.is("undo() of SET", x.undo(), 0);
        Due.is("its cell", x.child(1, 0), 11);
        x.moor(1);
        Due.is("undo() of MOORED", x.undo(), 0);
        Due.is("not moored", x.count(7), 0);
        x.moor(1);
        x.moor(1);
        Due.is("undo() of not MOORED any more", x.undo(), 1);
        Due.is("moored", x.count(7), 2);
        x.day();
        x.put(0);
        Due.is("undo() of PUT BACK", x.undo(), 2);
        Due.is("what it knew", x.knows(0, 0), 3);
        Due.is("undo()", x.undo(), 1);
        Due.is("undo() of the first", x.undo(), 0);
        Due.is("undo() of none any more", x.undo(), STATE);
    }

    // "ACTS are a row (14 at most; of more the first one is forgotten)"
    private static void fourteenActs() {
        PotSchools just = Due.coast("SGa00Ca0");
        Due.days(just, 14);
        Due.is("14 ACTS", just.count(10), 14);
        for (int left = 13; left >= 0; left--) {
            Due.is("undo() of 14", just.undo(), left);
        }
        Due.is("all 14 undone", just.count(4), 0);
        Due.is("undo() then", just.undo(), STATE);
        PotSchools more = Due.coast("SGa00Ca0");
        Due.days(more, 15);
        Due.is("ACTS of 15", more.count(10), 14);
        for (int left = 13; left >= 0; left--) {
            Due.is("undo() of 15", more.undo(), left);
        }
        Due.is("the first is forgotten, not undone", more.count(4), 1);
        Due.is("undo() of a forgotten one", more.undo(), STATE);
        Due.is("what it taught is known", more.knows(0, 0), 1);
    }

    /** Acts and undoing by turns, against a plain list of how all was. */
    private static void rowGoesRound() {
        PotSchools x = Due.coast("ST1T3T0T2Gb00Gf10Ca0Cb1");
        List<String> ahead = new ArrayList<>();
        int[] turns = {16, -5, 7, -14, 3, -3, 15, -1, 1, -14};
        for (int turn : turns) {
            for (int i = 0; i < Math.abs(turn); i++) {
                if (turn > 0) {
                    ahead.add(known(x));
                    act(x, ahead.size());
                    if (ahead.size() > 14) {
                        ahead.remove(0);
                    }
                    Due.is("ACTS", x.count(10), ahead.size());
                } else {
                    String was = ahead.remove(ahead.size() - 1);
                    Due.is("undo()", x.undo(), ahead.size());
                    Due.same("undone", known(x), was);
                }
            }
        }
        Due.is("the row is empty", x.undo(), STATE);
    }

    private static void act(PotSchools x, int which) {
        if (which % 3 == 0) {
            x.moor(which % 2);
        } else {
            x.day();
        }
    }

    private static String known(PotSchools x) {
        return x.count(4) + " " + x.count(6) + " " + x.count(7) + " " + x.count(8);
    }

    // "ACTS (DAYS, SET, MOORED, PUT BACK)": nothing else is one, and nothing that is refused.
    private static void whatIsNoAct() {
        PotSchools x = Due.coast("SGa00Ca0Cb0");
        x.day();
        x.write('T');
        x.wipe();
        x.keep(0);
        x.knew(0, 1, 1);
        x.forget();
        x.seed(5);
        x.generations(30);
        x.ahead(0, 0, 20);
        x.judge(4, 0);
        x.fit();
        x.set(0, 0);
        x.set(0, 12);
        x.moor(2);
        x.put(1);
        x.coast();
        Due.is("ACTS", x.count(10), 1);
        Due.is("undo()", x.undo(), 0);
        Due.is("THE DAY", x.count(4), 0);
    }

    // "(THE ROW of ACTS is empty, what was kept is gone ...)"; "(THE ROW of ACTS is empty when one goes on)"
    private static void rowIsEmptied() {
        PotSchools x = Due.coast("SGa00Ca0");
        Due.days(x, 16);
        x.keep(0);
        Due.is("keep(0) leaves the row", x.count(10), 14);
        x.again(0);
        Due.is("again(0) empties the row", x.count(10), 0);
        Due.is("undo() behind it", x.undo(), STATE);
        Due.is("THE DAY", x.count(4), 16);
        x.day();
        Due.is("a new row", x.count(10), 1);
        x.coast();
        Due.is("coast() empties the row", x.count(10), 0);
        Due.is("undo() behind it", x.undo(), STATE);
        x.moor(0);
        Due.is("undo() in the new row", x.undo(), 0);
        Due.is("THE DAY of the new coast", x.count(4), 0);
    }
}
