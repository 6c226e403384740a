/** The edges that the document names of SLOTS and counts: promises 28 to 30, a sentence a test. */
public final class SlotsEdgesTest {
    private static final int UNKNOWN = PotSchools.UNKNOWN, OUTSIDE = PotSchools.OUTSIDE;
    private static final int STATE = PotSchools.STATE, FULL = PotSchools.FULL;

    public static void main(String[] args) {
        slotNumbers();
        noneKept();
        keptOfNothing();
        whatIsKept();
        whatIsNotKept();
        keptOver();
        slotsApart();
        keptOutlastsActs();
        againAndAgain();
        goneWithTheCoast();
        rowIsEmptyThen();
        countLetters();
        countTold();
        countTheDay();
        countCells();
        countMoored();
        countWeights();
        countTheWay();
        countActs();
        countKnew();
        countOutside();
        Due.end();
    }

    // "SLOTS 0 to 1"
    private static void slotNumbers() {
        PotSchools x = Due.coast("SCa0");
        Due.is("keep(0)", x.keep(0), 0);
        Due.is("keep(1)", x.keep(1), 0);
        Due.is("keep(2)", x.keep(2), UNKNOWN);
        Due.is("keep(-1)", x.keep(-1), UNKNOWN);
        Due.is("again(0)", x.again(0), 0);
        Due.is("again(1)", x.again(1), 0);
        Due.is("again(2)", x.again(2), UNKNOWN);
        Due.is("again(-1)", x.again(-1), UNKNOWN);
    }

    // "STATE: none were kept"
    private static void noneKept() {
        PotSchools x = Due.coast("SGa00Ca0");
        Due.is("again(0)", x.again(0), STATE);
        Due.is("again(1)", x.again(1), STATE);
        x.keep(1);
        Due.is("again(0), the other one kept", x.again(0), STATE);
        Due.is("again(1)", x.again(1), 0);
        x.keep(2);
        Due.is("again(0), a refused one kept nothing", x.again(0), STATE);
    }

    /** Before there is a COAST, THE DAY can be kept. */
    private static void keptOfNothing() {
        PotSchools x = new PotSchools();
        x.day();
        Due.is("keep(0)", x.keep(0), 1);
        x.day();
        Due.is("again(0)", x.again(0), 1);
        Due.is("THE DAY", x.count(4), 1);
    }

    // "keep where pots are, which are MOORED, what all know, THE DAY"
    private static void whatIsKept() {
        PotSchools x = Due.coast("ST1T3Gb00Gc11Ca0Cb1Cl0Cl2Cl3");
        x.moor(4);
        Due.days(x, 3);
        x.moor(0);
        x.keep(0);
        String seen = Due.seen(x);
        int acts = x.count(10);
        Due.is("ACTS", acts, 5);
        x.set(0, 11);
        x.moor(0);
        x.moor(4);
        x.put(1);
        x.day();
        Due.is("again(0)", x.again(0), 3);
        String want = seen.replaceFirst("^((\\S+ ){10})5 ", "$10 ");
        Due.same("all that was kept", Due.seen(x), want);
    }

    /** THE TEXT, KNEW, THE SEED are no part of what is kept. */
    private static void whatIsNotKept() {
        PotSchools x = Due.coast("SGa00Ca0");
        x.knew(0, 1, 1);
        x.seed(11);
        x.keep(0);
        x.write('T');
        x.knew(0, 2, 2);
        x.seed(22);
        x.again(0);
        Due.is("letters", x.count(0), 9);
        Due.is("KNEW", x.count(11), 2);
        Due.is("THE SEED", x.seed(0), 22);
    }

    /** What is kept in a SLOT takes the place of what was kept there. */
    private static void keptOver() {
        PotSchools x = Due.coast("SGa00Ca0");
        x.keep(0);
        Due.days(x, 2);
        Due.is("keep(0)", x.keep(0), 2);
        Due.days(x, 2);
        Due.is("again(0)", x.again(0), 2);
        Due.is("what it knew then", x.count(8), 2);
    }

    private static void slotsApart() {
        PotSchools x = Due.coast("SGa00Ca0");
        x.day();
        x.keep(0);
        x.day();
        x.keep(1);
        x.day();
        Due.is("again(0)", x.again(0), 1);
        Due.is("WEIGHTS of slot 0", x.count(8), 1);
        Due.is("again(1)", x.again(1), 2);
        Due.is("WEIGHTS of slot 1", x.count(8), 2);
        Due.is("again(0), still", x.again(0), 1);
        Due.is("keep(1), what slot 0 has", x.keep(1), 1);
        Due.is("again(1)", x.again(1), 1);
    }

    private static void keptOutlastsActs() {
        PotSchools x = Due.coast("SGa00Ca0");
        x.day();
        x.keep(0);
        x.undo();
        Due.is("THE DAY is undone", x.count(4), 0);
        Due.is("again(0), what was kept is not", x.again(0), 1);
        Due.days(x, 20);
        x.wipe();
        x.forget();
        Due.is("again(0), 20 days on", x.again(0), 1);
        Due.is("WEIGHTS", x.count(8), 1);
    }

    /** What one goes on from is not changed by what is done then. */
    private static void againAndAgain() {
        PotSchools x = Due.coast("ST1Gb00Ca0");
        x.keep(0);
        for (int i = 0; i < 3; i++) {
            x.day();
            x.moor(0);
            x.set(0, 9);
            Due.is("again(0)", x.again(0), 0);
            Due.is("its cell", x.child(0, 0), 0);
            Due.is("not moored", x.count(7), 0);
            Due.is("WEIGHTS", x.count(8), 0);
        }
    }

    // "what was kept is gone"
    private static void goneWithTheCoast() {
        PotSchools x = Due.coast("SGa00Ca0");
        x.keep(0);
        x.keep(1);
        x.write('T');
        Due.is("coast() with a FAULT", x.coast(), STATE);
        Due.is("again(0), nothing is gone", x.again(0), 0);
        Due.write(x, "SGa00Ca0");
        x.coast();
        Due.is("again(0)", x.again(0), STATE);
        Due.is("again(1)", x.again(1), STATE);
        Due.is("keep(1) on the new coast", x.keep(1), 0);
        Due.is("again(1) on the new coast", x.again(1), 0);
        Due.is("again(0), only 1 is kept", x.again(0), STATE);
    }

    // "(THE ROW of ACTS is empty when one goes on)"
    private static void rowIsEmptyThen() {
        PotSchools x = Due.coast("SGa00Ca0");
        x.day();
        x.keep(0);
        Due.is("keep(0) is no ACT", x.count(10), 1);
        Due.is("again(0)", x.again(0), 1);
        Due.is("ACTS", x.count(10), 0);
        Due.is("undo()", x.undo(), STATE);
        x.day();
        Due.is("undo() of a new one", x.undo(), 0);
        Due.is("THE DAY", x.count(4), 1);
        x.day();
        Due.is("a refused again()", x.again(1), STATE);
        Due.is("ACTS stay by it", x.count(10), 1);
    }

    // "0 letters of THE TEXT": 48 at most.
    private static void countLetters() {
        PotSchools x = new PotSchools();
        for (int i = 0; i < 60; i++) {
            Due.is("letters", x.count(0), Math.min(i, 48));
            x.write('x');
        }
        x.wipe();
        Due.is("letters, wiped", x.count(0), 0);
    }

    // "1 TIDES, 2 GROUNDS, 3 CHILDREN": of THE COAST, not of THE TEXT.
    private static void countTold() {
        PotSchools x = Due.written("ST0T1T2T3Ga00Gb11Gc22Gd33Ge40Gf01Ca0Ca1Cb2Cl3Cl0");
        for (int what = 1; what <= 3; what++) {
            Due.is("count(" + what + ") before there is a coast", x.count(what), 0);
        }
        x.coast();
        Due.is("TIDES", x.count(1), 4);
        Due.is("GROUNDS", x.count(2), 6);
        Due.is("CHILDREN", x.count(3), 5);
        Due.write(x, "S");
        Due.is("TIDES, another text", x.count(1), 4);
        x.coast();
        for (int what = 1; what <= 3; what++) {
            Due.is("count(" + what + ") of S", x.count(what), 0);
        }
    }

    // "4 THE DAY"
    private static void countTheDay() {
        PotSchools x = Due.coast("SCa0");
        for (int day = 0; day < 40; day++) {
            Due.is("THE DAY", x.count(4), day);
            x.day();
        }
        x.undo();
        Due.is("THE DAY, undone", x.count(4), 39);
        x.coast();
        Due.is("THE DAY, made anew", x.count(4), 0);
    }

    // "5 CELLS of GROUNDS (bits), 6 CELLS of CHILDREN (bits)"
    private static void countCells() {
        PotSchools x = Due.coast("SGa00Gl00Gf00Cl0Ca0Cl0");
        Due.is("CELLS of GROUNDS", x.count(5), 1 | 1 << 5 | 1 << 11);
        Due.is("CELLS of CHILDREN", x.count(6), 1 | 1 << 11);
        x.set(0, 0);
        x.set(2, 0);
        Due.is("CELLS of CHILDREN, all in one", x.count(6), 1);
        Due.is("none", new PotSchools().count(5) + new PotSchools().count(6), 0);
    }

    // "7 who is MOORED (bits)"
    private static void countMoored() {
        PotSchools x = Due.coast("SCa0Ca0Ca0Ca0Ca0");
        int bits = 0;
        for (int child = 4; child >= 0; child--) {
            x.moor(child);
            bits |= 1 << child;
            Due.is("who is MOORED", x.count(7), bits);
        }
        x.moor(2);
        Due.is("who is MOORED still", x.count(7), 27);
    }

    // "8 WEIGHTS together": 45 of each of five at most.
    private static void countWeights() {
        PotSchools x = Due.coast("SGa00Gb10Gc20Gd30Ge40Ca1Cb1Cc1Cd1Ce1");
        for (int turn = 0; turn < 5; turn++) {
            Due.days(x, 5);
            Due.is("WEIGHTS", x.count(8), 45 * (turn + 1));
            for (int child = 0; child < 5; child++) {
                x.set(child, (child + turn + 1) % 5);
            }
        }
        Due.is("day() then", x.day(), 225);
        Due.is("put(4)", x.put(4), 45);
        Due.is("WEIGHTS without it", x.count(8), 180);
    }

    // "9 the WAY of the TIDE of the next DAY (4: none)"
    private static void countTheWay() {
        Due.is("no tide", Due.coast("SCa0").count(9), 4);
        Due.is("a tide of way 4", Due.coast("ST4").count(9), 4);
        PotSchools x = Due.coast("ST0T3T1");
        int[] ways = {0, 3, 1, 0, 3, 1, 0};
        for (int day = 0; day < ways.length; day++) {
            Due.is("the WAY on DAY " + day, x.count(9), ways[day]);
            x.day();
        }
        x.undo();
        Due.is("the WAY, undone", x.count(9), 0);
        x.undo();
        Due.is("the WAY, undone twice", x.count(9), 1);
    }

    // "10 ACTS in the row": 14 at most.
    private static void countActs() {
        PotSchools x = Due.coast("SCa0");
        for (int i = 0; i < 30; i++) {
            Due.is("ACTS", x.count(10), Math.min(i, 14));
            x.moor(0);
        }
        x.undo();
        Due.is("ACTS, one undone", x.count(10), 13);
    }

    // "11 KNEW": 6 at most.
    private static void countKnew() {
        PotSchools x = new PotSchools();
        for (int i = 0; i < 6; i++) {
            Due.is("KNEW", x.count(11), i);
            x.knew(0, 0, 0);
        }
        Due.is("a seventh", x.knew(0, 0, 0), FULL);
        Due.is("KNEW at most", x.count(11), 6);
        x.forget();
        Due.is("KNEW, forgotten", x.count(11), 0);
    }

    // "OUTSIDE": 0 to 11 are counts.
    private static void countOutside() {
        PotSchools x = new PotSchools();
        for (int what = 0; what <= 11; what++) {
            Due.is("count(" + what + ")", x.count(what), what == 9 ? 4 : 0);
        }
        Due.is("count(12)", x.count(12), OUTSIDE);
        Due.is("count(-1)", x.count(-1), OUTSIDE);
        Due.is("count(least)", x.count(Integer.MIN_VALUE), OUTSIDE);
        Due.is("count(most)", x.count(Integer.MAX_VALUE), OUTSIDE);
    }
}
