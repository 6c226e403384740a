/** Promises 23 to 27: share, rests, fails, seed, generations. */
public final class ChancesTest {
    private static final int NONE = PotSchools.NONE, UNKNOWN = PotSchools.UNKNOWN;
    private static final int OUTSIDE = PotSchools.OUTSIDE;

    public static void main(String[] args) {
        shares();
        shareRefused();
        rests();
        restsRefused();
        fails();
        failsRefused();
        seed();
        generations();
        generationsTogether();
        Due.end();
    }

    private static void shared(PotSchools x, int ground, int above, int below) {
        Due.fraction("share(" + ground + ", 0)", x.share(ground, 0, true), x.share(ground, 0, false), above, below);
    }

    private static void shares() {
        PotSchools alone = Due.coast("SGa00Gb01Ca0");
        shared(alone, 0, 6, 1);
        shared(alone, 1, 0, 1);
        PotSchools both = Due.coast("ST1T0Gb01Ga02Ca0");
        shared(both, 0, 6, 1);
        shared(both, 1, 3, 1);
        PotSchools halves = Due.coast("ST0T1Gb01Ga00Ca0");
        shared(halves, 0, 3, 2);
        shared(halves, 1, 3, 2);
        PotSchools ghost = Due.coast("SGa01Gb03Ca0");
        ghost.day();
        ghost.set(0, 1);
        shared(ghost, 0, 0, 1);
        shared(ghost, 1, -3, 1);
        PotSchools lessHalf = Due.coast("ST1T0Gb01Ga03Ca0");
        // With both: 3, 2, 2, 1, 1, 0; with the crab alone 3, with the ghost alone 0.
        shared(lessHalf, 0, 3, 2);
        shared(lessHalf, 1, -3, 2);
        PotSchools shy = Due.coast("SGa00Ca3Ca0");
        shared(shy, 0, 0, 1);
    }

    private static void shareRefused() {
        PotSchools x = Due.coast("SGa00Ca0");
        Due.fraction("share(1, 0)", x.share(1, 0, true), x.share(1, 0, false), UNKNOWN, UNKNOWN);
        Due.fraction("share(-1, 0)", x.share(-1, 0, true), x.share(-1, 0, false), UNKNOWN, UNKNOWN);
        Due.fraction("share(0, 1)", x.share(0, 1, true), x.share(0, 1, false), UNKNOWN, UNKNOWN);
        Due.fraction("share(0, -1)", x.share(0, -1, true), x.share(0, -1, false), UNKNOWN, UNKNOWN);
    }

    private static void rested(String text, int one, int other, int many, int first) {
        PotSchools x = Due.coast(text);
        String call = "rests(" + one + ", " + other + ", ";
        Due.is(call + "0) of " + text, x.rests(one, other, 0), many);
        Due.is(call + "1) of " + text, x.rests(one, other, 1), first);
    }

    private static void rests() {
        rested("SGa00Gb01Ca3Cb3", 0, 1, 2, 1);
        rested("SGa00Gb01Cl0Cl0", 0, 1, 1, 0);
        rested("SGa00Gb10Cl0Cl0", 0, 1, 4, 0);
        rested("SGa03Gb00Gc01Cl3Cl3", 0, 1, 2, 12);
        rested("SGa00Gb01Ca0Ca2", 0, 1, 1, 1);
        rested("SGa00Gb01Ca0Ca2", 1, 0, 1, 10);
        rested("SCa0Ca0", 0, 1, 0, NONE);
        rested("SGa00Ca3Ca3", 0, 1, 1, 0);
        // Moored by this, whatever the tide: going from c to d it would be the same ground.
        rested("ST1Gd00Gc01Ca0Cb0", 0, 1, 1, 0);
        // A third one in a keeps the shy ones out of it.
        rested("SGa00Gb01Cl3Cl0Ca0", 0, 1, 1, 10);
        PotSchools moored = Due.coast("ST1Gd00Gc01Ca0Cb0");
        moored.moor(0);
        Due.is("rests(0, 1, 0), moored before", moored.rests(0, 1, 0), 1);
        Due.is("rests(0, 1, 1), moored before", moored.rests(0, 1, 1), 0);
    }

    private static void restsRefused() {
        PotSchools x = Due.coast("SGa00Ca0Ca0");
        Due.is("rests(2, 0, 0)", x.rests(2, 0, 0), UNKNOWN);
        Due.is("rests(0, 2, 0)", x.rests(0, 2, 0), UNKNOWN);
        Due.is("rests(-1, -1, 2)", x.rests(-1, -1, 2), UNKNOWN);
        Due.is("rests(1, 1, 0)", x.rests(1, 1, 0), OUTSIDE);
        Due.is("rests(0, 1, 2)", x.rests(0, 1, 2), OUTSIDE);
        Due.is("rests(0, 1, -1)", x.rests(0, 1, -1), OUTSIDE);
    }

    private static void failed(PotSchools x, int v, int n, int tenths, int above, int below) {
        Due.fraction("fails(0, 0, " + v + ", " + n + ", " + tenths + ")", x.fails(0, 0, v, n, tenths, true),
            x.fails(0, 0, v, n, tenths, false), above, below);
    }

    private static void fails() {
        PotSchools x = Due.coast("ST1Gb00Ca0");
        failed(x, 1, 1, 4, 3, 5);
        failed(x, 1, 2, 4, 21, 25);
        failed(x, 2, 2, 4, 6, 25);
        failed(x, 0, 6, 3, 1, 1);
        failed(x, 9, 6, 3, 0, 1);
        failed(x, 1, 1, 0, 1, 1);
        failed(x, 1, 6, 10, 0, 1);
        // One day's tide to b, then none for five.
        failed(x, 6, 6, 5, 1, 64);
        failed(x, 6, 6, 3, 1701, 1000000);
        PotSchools dreamy = Due.coast("ST1Gb00Ca2");
        // The day goes on when the tide fails: it learns on day 1 if it is in b then.
        failed(dreamy, 1, 2, 5, 1, 2);
        PotSchools moored = Due.coast("ST1Gb00Ca0");
        moored.moor(0);
        failed(moored, 1, 6, 5, 0, 1);
        PotSchools knowing = Due.coast("SGa01Ca0");
        knowing.day();
        failed(knowing, 3, 1, 5, 1, 1);
    }

    private static void failsRefused() {
        PotSchools x = Due.coast("ST1Gb00Ca0");
        int[][] unknown = {{1, 0, 0, 1, 0}, {-1, 0, 0, 1, 0}, {0, 5, 0, 1, 0}, {0, -1, 10, 7, 11}};
        for (int[] a : unknown) {
            Due.fraction("fails, unknown", x.fails(a[0], a[1], a[2], a[3], a[4], true),
                x.fails(a[0], a[1], a[2], a[3], a[4], false), UNKNOWN, UNKNOWN);
        }
        int[][] outside = {{10, 1, 0}, {-1, 1, 0}, {0, 0, 0}, {0, 7, 0}, {0, 1, 11}, {0, 1, -1}};
        for (int[] a : outside) {
            Due.fraction("fails, outside", x.fails(0, 0, a[0], a[1], a[2], true),
                x.fails(0, 0, a[0], a[1], a[2], false), OUTSIDE, OUTSIDE);
        }
    }

    private static void seed() {
        PotSchools x = new PotSchools();
        Due.is("seed(min)", x.seed(Long.MIN_VALUE), 0);
        Due.is("seed(max)", x.seed(Long.MAX_VALUE), Long.MIN_VALUE);
        Due.is("seed(0)", x.seed(0), Long.MAX_VALUE);
        x.generations(1);
        Due.is("seed behind one", x.seed(0), 1442695040888963407L);
        x.generations(0);
        x.generations(31);
        Due.is("seed behind refusals", x.seed(0), 0);
    }

    /** Seeds ahead of those whose upper 31 bits leave what is asked: found by going on from 0. */
    private static long seedFor(int left) {
        long x = 0;
        for (int i = 0; i < 100000; i++) {
            long next = x * 6364136223846793005L + 1442695040888963407L;
            if (Math.floorMod(next >>> 33, 32L) == left) {
                return x;
            }
            x = next;
        }
        throw new IllegalStateException("no seed for " + left);
    }

    /** A seed by which child 0 is SET in a cell first, and A DAY goes by then. */
    private static long seedForSetAndDay(int cell) {
        long x = 0;
        for (int i = 0; i < 1000000; i++) {
            long next = x * 6364136223846793005L + 1442695040888963407L;
            long then = next * 6364136223846793005L + 1442695040888963407L;
            if ((next >>> 33) % 32 == cell && (then >>> 33) % 32 >= 17) {
                return x;
            }
            x = next;
        }
        throw new IllegalStateException("no seed for " + cell);
    }

    private static void generationsTogether() {
        PotSchools x = Due.coast("ST1Gl01Ga00Ce0Ca0");
        for (int cell = 0; cell < 12; cell++) {
            x.seed(seedForSetAndDay(cell));
            Due.is("SET in " + cell + ", then A DAY", x.generations(2), cell >= 10 ? 3 : 0);
        }
        x.set(1, 11);
        x.day();
        Due.is("WEIGHTS", x.count(8), 3);
        x.seed(seedForSetAndDay(10));
        Due.is("3, then 6, together", x.generations(2), 9);
        PotSchools nobody = Due.coast("SGa00");
        nobody.seed(seedForSetAndDay(0));
        Due.is("nobody is SET", nobody.generations(2), 0);
    }

    private static int once(PotSchools x, int left) {
        x.seed(seedFor(left));
        return x.generations(1);
    }

    private static void generations() {
        PotSchools x = Due.coast("SGa01Gb10Ca0Cb0");
        x.day();
        Due.is("WEIGHTS", x.count(8), 4);
        for (int left = 0; left < 12; left++) {
            Due.is("SET by " + left, once(x, left), 4);
        }
        Due.is("PUT BACK 0", once(x, 12), 1);
        Due.is("PUT BACK 1", once(x, 13), 3);
        for (int left = 14; left < 17; left++) {
            Due.is("nobody PUT BACK by " + left, once(x, left), 4);
        }
        for (int left = 17; left < 32; left++) {
            Due.is("A DAY by " + left, once(x, left), 5);
        }
        Due.is("generations(0)", x.generations(0), OUTSIDE);
        Due.is("generations(31)", x.generations(31), OUTSIDE);
        Due.is("generations(-1)", x.generations(-1), OUTSIDE);
        Due.is("nothing changed", x.count(8), 4);
        Due.is("THE DAY", x.count(4), 1);
        // In three parts as in one, where each begins with what is now: only the seed goes on.
        PotSchools nobody = new PotSchools();
        nobody.generations(30);
        long far = nobody.seed(0);
        nobody.generations(10);
        nobody.generations(19);
        nobody.generations(1);
        Due.is("the seed goes on", nobody.seed(0), far);
    }
}
