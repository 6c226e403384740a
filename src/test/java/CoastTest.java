/** Promises 1 to 8: a new object, write, wipe, fault, coast, ground, child, knows. */
public final class CoastTest {
    private static final int NONE = PotSchools.NONE, UNKNOWN = PotSchools.UNKNOWN;
    private static final int OUTSIDE = PotSchools.OUTSIDE, STATE = PotSchools.STATE, FULL = PotSchools.FULL;
    private static final String LONGEST = "ST0T1T2T3Ga00Gb11Gc22Gd33Ge40Gf01Ca0Ca1Cb2Cl3Cl0";

    public static void main(String[] args) {
        newObject();
        write();
        wipe();
        faultPlaces();
        faultLimits();
        coast();
        coastLeavesAndClears();
        ground();
        child();
        knows();
        Due.end();
    }

    private static void newObject() {
        PotSchools x = new PotSchools();
        for (int what = 0; what < 12; what++) {
            Due.is("new count(" + what + ")", x.count(what), what == 9 ? 4 : 0);
        }
        Due.is("new ground(0, 0)", x.ground(0, 0), UNKNOWN);
        Due.is("new child(0, 0)", x.child(0, 0), UNKNOWN);
        Due.is("new knows(0, 0)", x.knows(0, 0), UNKNOWN);
        Due.is("new undo()", x.undo(), STATE);
        Due.is("new again(0)", x.again(0), STATE);
        Due.is("new began()", x.began(), 4095);
        Due.is("new forget()", x.forget(), 0);
        Due.is("new seed(5)", x.seed(5), 0);
    }

    private static void write() {
        PotSchools x = new PotSchools();
        Due.is("write(-1)", x.write(-1), OUTSIDE);
        Due.is("write(256)", x.write(256), OUTSIDE);
        Due.is("write(min)", x.write(Integer.MIN_VALUE), OUTSIDE);
        Due.is("write(0)", x.write(0), 1);
        Due.is("write(255)", x.write(255), 2);
        for (int i = 3; i <= 48; i++) {
            Due.is("write('S')", x.write('S'), i);
        }
        Due.is("49th write", x.write('S'), FULL);
        Due.is("49th write, outside first", x.write(256), OUTSIDE);
        Due.is("letters", x.count(0), 48);
    }

    private static void wipe() {
        PotSchools x = Due.coast("ST1Ga00Ca0");
        Due.is("wipe()", x.wipe(), 10);
        Due.is("wipe() again", x.wipe(), 0);
        Due.is("wiped fault()", x.fault(), 0);
        Due.is("the coast stays", x.count(1) * 100 + x.count(2) * 10 + x.count(3), 111);
    }

    private static void fault(String text, int want) {
        Due.is("fault of '" + text + "'", Due.written(text).fault(), want);
    }

    private static void faultPlaces() {
        fault("", 0);
        fault("S", NONE);
        fault("s", 0);
        fault("TS", 0);
        fault("SS", 1);
        fault("St", 1);
        fault("ST", 2);
        fault("ST4", NONE);
        fault("ST5", 2);
        fault("ST/", 2);
        fault("STa", 2);
        fault("SG", 2);
        fault("SGa", 3);
        fault("SGa0", 4);
        fault("SGa03", NONE);
        fault("SGl43", NONE);
        fault("SGm", 2);
        fault("SGA", 2);
        fault("SG`", 2);
        fault("SGa5", 3);
        fault("SGa04", 4);
        fault("SGa00G", 6);
        fault("SGa00Ga", 6);
        fault("SGa00Gb00Ga00", 10);
        fault("SC", 2);
        fault("SCa", 3);
        fault("SCa3", NONE);
        fault("SCl0", NONE);
        fault("SCm0", 2);
        fault("SCa4", 3);
        fault("SCa0Ca0", NONE);
        fault("SCa0Ga00T1", NONE);
        fault("SCa0 ", 4);
        fault("SCa0" + (char) 0, 4);
        fault("S" + (char) 212, 1);
    }

    private static void faultLimits() {
        fault("ST0T0T0T0", NONE);
        fault("ST0T0T0T0T", 9);
        fault("ST0T0T0T0T0", 9);
        fault("SCa0Ca0Ca0Ca0Ca0", NONE);
        fault("SCa0Ca0Ca0Ca0Ca0C", 16);
        fault("SGa00Gb00Gc00Gd00Ge00Gf00", NONE);
        fault("SGa00Gb00Gc00Gd00Ge00Gf00G", 25);
        fault(LONGEST, NONE);
        fault(LONGEST.substring(0, 47), 47);
        fault(LONGEST.substring(0, 47) + "4", 47);
    }

    private static void coast() {
        Due.is("coast() of the longest", Due.written(LONGEST).coast(), 465);
        Due.is("coast() of S", Due.written("S").coast(), 0);
        Due.is("coast() of nothing", Due.written("").coast(), STATE);
        Due.is("coast() half told", Due.written("SCa").coast(), STATE);
        PotSchools x = Due.coast("ST1Gb00Ca0");
        x.day();
        x.keep(1);
        String seen = Due.seen(x);
        Due.write(x, "ST1Gb00C");
        Due.is("coast() with a fault", x.coast(), STATE);
        x.write('a');
        x.write('0');
        Due.same("a refused coast() changes nothing", Due.seen(x), seen);
        Due.is("a refused coast() leaves slots", x.again(1), 1);
    }

    private static void coastLeavesAndClears() {
        PotSchools x = Due.coast("ST1Gb00Ca0");
        x.day();
        x.moor(0);
        x.keep(0);
        x.knew(0, 1, 1);
        x.seed(77);
        Due.is("coast() again", x.coast(), 111);
        Due.is("THE DAY", x.count(4), 0);
        Due.is("MOORED", x.count(7), 0);
        Due.is("WEIGHTS", x.count(8), 0);
        Due.is("CELL", x.child(0, 0), 0);
        Due.is("ACTS", x.count(10), 0);
        Due.is("undo()", x.undo(), STATE);
        Due.is("again(0)", x.again(0), STATE);
        Due.is("KNEW", x.count(11), 1);
        Due.is("began()", x.began(), 1);
        Due.is("seed", x.seed(0), 77);
        Due.is("letters", x.count(0), 10);
        Due.write(x, "SGa00Cl3Cl1");
        Due.is("another coast", x.coast(), 12);
        Due.is("its cell", x.child(1, 0), 11);
        Due.is("its ground", x.ground(0, 0), 0);
        Due.is("no ground in b", x.count(5), 1);
    }

    private static void ground() {
        PotSchools x = Due.coast("SGl43Gf10Cf0Ca0Cf2");
        Due.is("ground(0, 0)", x.ground(0, 0), 11);
        Due.is("ground(0, 1)", x.ground(0, 1), 4);
        Due.is("ground(0, 2)", x.ground(0, 2), 3);
        Due.is("ground(0, 3)", x.ground(0, 3), 0);
        Due.is("ground(1, 0)", x.ground(1, 0), 5);
        Due.is("ground(1, 1)", x.ground(1, 1), 1);
        Due.is("ground(1, 2)", x.ground(1, 2), 0);
        Due.is("ground(1, 3)", x.ground(1, 3), 5);
        x.set(1, 5);
        Due.is("ground(1, 3), one more", x.ground(1, 3), 7);
        Due.is("ground(2, 0)", x.ground(2, 0), UNKNOWN);
        Due.is("ground(-1, 0)", x.ground(-1, 0), UNKNOWN);
        Due.is("ground(2, 9)", x.ground(2, 9), UNKNOWN);
        Due.is("ground(0, 4)", x.ground(0, 4), OUTSIDE);
        Due.is("ground(0, -1)", x.ground(0, -1), OUTSIDE);
    }

    private static void child() {
        PotSchools x = Due.coast("SGl43Gf10Cf1Ca2");
        Due.is("child(0, 0)", x.child(0, 0), 5);
        Due.is("child(0, 1)", x.child(0, 1), 1);
        Due.is("child(0, 2)", x.child(0, 2), 0);
        Due.is("child(0, 3)", x.child(0, 3), 0);
        Due.is("child(0, 4)", x.child(0, 4), 1);
        Due.is("child(1, 1)", x.child(1, 1), 2);
        Due.is("child(1, 4)", x.child(1, 4), NONE);
        x.moor(0);
        x.day();
        x.set(0, 11);
        Due.is("child(0, 2), moored", x.child(0, 2), 1);
        Due.is("child(0, 3), quick on weed", x.child(0, 3), 2);
        Due.is("child(0, 4), elsewhere", x.child(0, 4), 0);
        Due.is("child(2, 0)", x.child(2, 0), UNKNOWN);
        Due.is("child(-1, 5)", x.child(-1, 5), UNKNOWN);
        Due.is("child(0, 5)", x.child(0, 5), OUTSIDE);
        Due.is("child(0, -1)", x.child(0, -1), OUTSIDE);
    }

    private static void knows() {
        PotSchools x = Due.coast("SGa31Ca0Cb0");
        Due.is("knows(0, 3), at first", x.knows(0, 3), 0);
        x.day();
        Due.is("knows(0, 3)", x.knows(0, 3), 3);
        Due.is("knows(0, 2)", x.knows(0, 2), 0);
        Due.is("knows(1, 3)", x.knows(1, 3), 0);
        Due.is("knows(0, 5)", x.knows(0, 5), UNKNOWN);
        Due.is("knows(0, -1)", x.knows(0, -1), UNKNOWN);
        Due.is("knows(2, 0)", x.knows(2, 0), UNKNOWN);
        Due.is("knows(-1, 0)", x.knows(-1, 0), UNKNOWN);
    }
}
