/** Promises 28 to 30: keep, again, count. */
public final class SlotsTest {
    private static final int UNKNOWN = PotSchools.UNKNOWN, OUTSIDE = PotSchools.OUTSIDE, STATE = PotSchools.STATE;

    public static void main(String[] args) {
        keepAndAgain();
        twoSlots();
        refused();
        count();
        Due.end();
    }

    private static void keepAndAgain() {
        PotSchools x = Due.coast("ST1Gb01Gc10Ca0Cf0");
        x.day();
        x.moor(1);
        x.knew(0, 1, 3);
        Due.is("keep(0)", x.keep(0), 1);
        Due.is("keep(0) leaves the row", x.count(10), 2);
        String seen = Due.seen(x).replaceFirst("^((\\S+ ){10})\\S+", "$10");
        Due.days(x, 2);
        x.set(1, 11);
        x.moor(1);
        x.put(0);
        x.seed(9);
        Due.is("again(0)", x.again(0), 1);
        Due.same("as it was kept, the row empty", Due.seen(x), seen);
        Due.is("undo()", x.undo(), STATE);
        Due.is("the seed stays", x.seed(0), 9);
        x.day();
        Due.is("again(0), a second time", x.again(0), 1);
        Due.same("as it was kept, still", Due.seen(x), seen);
        x.forget();
        x.wipe();
        x.again(0);
        Due.is("KNEW is not kept", x.count(11), 0);
        Due.is("THE TEXT is not kept", x.count(0), 0);
    }

    private static void twoSlots() {
        PotSchools x = Due.coast("SGa00Ca0");
        x.keep(0);
        Due.days(x, 2);
        Due.is("keep(1)", x.keep(1), 2);
        Due.days(x, 3);
        Due.is("again(0)", x.again(0), 0);
        Due.is("WEIGHTS", x.count(8), 0);
        Due.is("again(1)", x.again(1), 2);
        Due.is("WEIGHTS then", x.count(8), 2);
        x.day();
        Due.is("keep(0), over the first", x.keep(0), 3);
        x.again(1);
        Due.is("again(0), the second", x.again(0), 3);
        Due.is("WEIGHTS of it", x.count(8), 3);
        x.coast();
        Due.is("again(0) on a coast made anew", x.again(0), STATE);
        Due.is("again(1) on a coast made anew", x.again(1), STATE);
    }

    private static void refused() {
        PotSchools x = Due.coast("SGa00Ca0");
        x.day();
        Due.is("keep(2)", x.keep(2), UNKNOWN);
        Due.is("keep(-1)", x.keep(-1), UNKNOWN);
        Due.is("again(2)", x.again(2), UNKNOWN);
        Due.is("again(-1)", x.again(-1), UNKNOWN);
        Due.is("again(0)", x.again(0), STATE);
        Due.is("a refused again() leaves the row", x.count(10), 1);
        Due.is("again(32)", x.again(32), UNKNOWN);
        x.keep(1);
        Due.is("again(0), only 1 kept", x.again(0), STATE);
    }

    private static void count() {
        PotSchools x = Due.coast("ST2T3Gl00Gb10Ga20Cl0Cl3Cb1");
        x.moor(2);
        x.moor(0);
        x.knew(1, 1, 1);
        x.day();
        int[] want = {26, 2, 3, 3, 1, 1 | 2 | 2048, 1 << 11 | 1 << 7 | 1 << 1, 5, 3, 3, 3, 1};
        for (int what = 0; what < want.length; what++) {
            Due.is("count(" + what + ")", x.count(what), want[what]);
        }
        Due.is("count(12)", x.count(12), OUTSIDE);
        Due.is("count(-1)", x.count(-1), OUTSIDE);
        Due.is("count(min)", x.count(Integer.MIN_VALUE), OUTSIDE);
    }
}
