/** Promises 9 to 13: day, set, moor, put, undo. */
public final class ActsTest {
    private static final int UNKNOWN = PotSchools.UNKNOWN, STATE = PotSchools.STATE;

    public static void main(String[] args) {
        tidesByWay();
        tidesInTurn();
        kindsOfGrounds();
        quickOnes();
        dreamyOnes();
        shyOnes();
        set();
        moor();
        put();
        undo();
        rowOfActs();
        Due.end();
    }

    private static void goes(char way, String from, String to) {
        for (int i = 0; i < from.length(); i++) {
            PotSchools x = Due.coast("ST" + way + "C" + from.charAt(i) + "0");
            x.day();
            Due.is("way " + way + " from " + from.charAt(i), x.child(0, 0), to.charAt(i) - 'a');
        }
    }

    private static void tidesByWay() {
        goes('0', "abcdefghijkl", "aabceefgiijk");
        goes('1', "abcdefghijkl", "bcddfghhjkll");
        goes('2', "abcdefghijkl", "abcdabcdefgh");
        goes('3', "abcdefghijkl", "efghijklijkl");
        goes('4', "abcdefghijkl", "abcdefghijkl");
    }

    private static void tidesInTurn() {
        PotSchools x = Due.coast("ST1T3T2Ca0Cf0");
        x.moor(1);
        int[] cells = {1, 5, 1, 2, 6, 2};
        for (int i = 0; i < cells.length; i++) {
            Due.is("way of day " + i, x.count(9), new int[] {1, 3, 2}[i % 3]);
            Due.is("day()", x.day(), 0);
            Due.is("cell behind day " + i, x.child(0, 0), cells[i]);
            Due.is("moored cell behind day " + i, x.child(1, 0), 5);
        }
        Due.is("THE DAY", x.count(4), 6);
        PotSchools still = Due.coast("SCa0");
        still.day();
        Due.is("no tide", still.child(0, 0), 0);
    }

    private static void daysAre(PotSchools x, int... weights) {
        for (int i = 0; i < weights.length; i++) {
            Due.is("day() " + i, x.day(), weights[i]);
        }
    }

    private static void kindsOfGrounds() {
        daysAre(Due.coast("SGa00Ca0"), 1, 2, 3, 4, 5, 6, 7, 8, 9, 9);
        daysAre(Due.coast("SGa01Ca0"), 3, 3, 3);
        daysAre(Due.coast("SGa02Ca0"), 0, 0);
        daysAre(Due.coast("SGa03Ca0"), 0, 0);
        PotSchools conger = Due.coast("SGa01Gb02Gc03Ca0");
        daysAre(conger, 3);
        conger.set(0, 1);
        daysAre(conger, 5, 7, 9, 9);
        conger.set(0, 2);
        daysAre(conger, 8, 7, 6, 5, 4, 3, 2);
        conger.set(0, 1);
        daysAre(conger, 2);
        conger.set(0, 0);
        daysAre(conger, 2);
        conger.set(0, 2);
        daysAre(conger, 1, 0, 0);
        PotSchools other = Due.coast("SGa01Gb12Ca0");
        daysAre(other, 3);
        other.set(0, 1);
        daysAre(other, 3);
    }

    private static void quickOnes() {
        daysAre(Due.coast("SGa00Ca1"), 2, 4, 6, 8, 9, 9);
        daysAre(Due.coast("SGa02Ca1"), 0, 0);
        daysAre(Due.coast("SGa03Ca1"), 0, 0);
        PotSchools x = Due.coast("SGa01Gb02Gc03Ca1");
        daysAre(x, 4, 4);
        x.set(0, 1);
        daysAre(x, 7, 9, 9);
        x.set(0, 2);
        daysAre(x, 8, 7);
    }

    private static void dreamyOnes() {
        daysAre(Due.coast("SGa00Ca2"), 0, 1, 1, 2, 2, 3);
        PotSchools x = Due.coast("SGa01Gb03Ca2");
        daysAre(x, 0, 3);
        x.set(0, 1);
        daysAre(x, 3, 2, 2, 1);
    }

    private static void shyOnes() {
        daysAre(Due.coast("SGa00Ca3"), 1, 2);
        PotSchools x = Due.coast("SGa00Gb10Ca3Ca0");
        daysAre(x, 1, 2);
        Due.is("the shy one learned nothing", x.knows(0, 0), 0);
        x.set(1, 1);
        daysAre(x, 4, 6);
        daysAre(Due.coast("SGa00Ca3Ca3"), 0, 0);
        // The pots have gone on before anybody learns.
        PotSchools met = Due.coast("ST1Gd00Cc3Cd3");
        daysAre(met, 0, 0);
        PotSchools parted = Due.coast("ST1Gd00Cd3Cc0");
        parted.moor(1);
        daysAre(parted, 1, 2);
    }

    private static void set() {
        PotSchools x = Due.coast("SGa00Ca0Cb0");
        Due.is("set(0, 11)", x.set(0, 11), 0);
        Due.is("child(0, 0)", x.child(0, 0), 11);
        Due.is("set(0, 11) again", x.set(0, 11), STATE);
        Due.is("set(0, 1), where another is", x.set(0, 1), 11);
        Due.is("set(2, 0)", x.set(2, 0), UNKNOWN);
        Due.is("set(-1, 0)", x.set(-1, 0), UNKNOWN);
        Due.is("set(0, 12)", x.set(0, 12), UNKNOWN);
        Due.is("set(0, -1)", x.set(0, -1), UNKNOWN);
        Due.is("ACTS", x.count(10), 2);
        x.moor(0);
        Due.is("set(0, 5), moored", x.set(0, 5), 1);
        Due.is("moored still", x.child(0, 2), 1);
    }

    private static void moor() {
        PotSchools x = Due.coast("ST1Ca0Ca0");
        Due.is("moor(1)", x.moor(1), 1);
        Due.is("who is MOORED", x.count(7), 2);
        x.day();
        Due.is("moored", x.child(1, 0), 0);
        Due.is("not moored", x.child(0, 0), 1);
        Due.is("moor(1) again", x.moor(1), 0);
        x.day();
        Due.is("not moored any more", x.child(1, 0), 1);
        Due.is("moor(2)", x.moor(2), UNKNOWN);
        Due.is("moor(-1)", x.moor(-1), UNKNOWN);
        Due.is("ACTS", x.count(10), 4);
    }

    private static void put() {
        PotSchools x = Due.coast("ST1T0Gb00Ga11Ca0Cb0");
        Due.is("put(0), knowing nothing", x.put(0), STATE);
        Due.days(x, 2);
        Due.is("WEIGHT", x.child(0, 3), 4);
        Due.is("put(0)", x.put(0), 4);
        Due.is("WEIGHT then", x.child(0, 3), 0);
        Due.is("its cell stays", x.child(0, 0), 0);
        Due.is("the other one", x.child(1, 3), 1);
        Due.is("put(0) again", x.put(0), STATE);
        Due.is("put(2)", x.put(2), UNKNOWN);
        Due.is("put(-1)", x.put(-1), UNKNOWN);
        Due.is("ACTS", x.count(10), 3);
    }

    private static void undo() {
        PotSchools x = Due.coast("ST1Gb01Ca0");
        String first = Due.seen(x);
        x.day();
        String day = Due.seen(x);
        x.moor(0);
        String moored = Due.seen(x);
        x.set(0, 7);
        String set = Due.seen(x);
        x.put(0);
        Due.is("undo() of put", x.undo(), 3);
        Due.same("put undone", Due.seen(x), set);
        Due.is("undo() of set", x.undo(), 2);
        Due.same("set undone", Due.seen(x), moored);
        Due.is("undo() of moor", x.undo(), 1);
        Due.same("moor undone", Due.seen(x), day);
        Due.is("undo() of day", x.undo(), 0);
        Due.same("day undone", Due.seen(x), first);
        Due.is("undo() of nothing", x.undo(), STATE);
        Due.same("nothing undone", Due.seen(x), first);
    }

    private static void rowOfActs() {
        PotSchools x = Due.coast("SGa00Ca0");
        for (int i = 1; i <= 14; i++) {
            x.day();
            Due.is("ACTS", x.count(10), i);
        }
        x.moor(0);
        Due.is("ACTS of 15", x.count(10), 14);
        Due.days(x, 3);
        Due.is("ACTS of 18", x.count(10), 14);
        for (int left = 13; left >= 0; left--) {
            Due.is("undo()", x.undo(), left);
        }
        Due.is("undo() at the row's end", x.undo(), STATE);
        Due.is("the first four stay", x.count(4), 4);
        Due.is("what they taught", x.knows(0, 0), 4);
        Due.is("not moored", x.count(7), 0);
    }
}
