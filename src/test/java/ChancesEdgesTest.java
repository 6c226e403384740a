import java.math.BigInteger;

/** The edges that the document names of SHARE, RESTS, FAILS, THE SEED: promises 23 to 27, a sentence a test. */
public final class ChancesEdgesTest {
    private static final int NONE = PotSchools.NONE, UNKNOWN = PotSchools.UNKNOWN, OUTSIDE = PotSchools.OUTSIDE;
    private static final long TIMES = 6364136223846793005L, MORE = 1442695040888963407L;

    public static void main(String[] args) {
        shareOfOne();
        shareOfNothing();
        shareInLeastTerms();
        shareBelowNone();
        shareOfSix();
        shareInSixDays();
        shareFromNowOn();
        shareOnASmallerCoast();
        restsWithoutGrounds();
        restsOfOneGround();
        restsOfSixGrounds();
        restsInFiveDays();
        restsOfOneAndOther();
        restsMoored();
        restsAmongOthers();
        restsOfShyOnes();
        restsBesideAShyOne();
        restsOnASmallerCoast();
        failsNever();
        failsAlways();
        failsByTenths();
        failsInSixDays();
        failsByItself();
        failsOfAmounts();
        failsForAllPots();
        failsInLeastTerms();
        seedOfAnyLong();
        seedWraps();
        generationsAtTheEnds();
        generationsByWhatIsLeft();
        generationsSet();
        generationsPutBack();
        generationsDays();
        generationsTogether();
        generationsChangeTheSeedAlone();
        Due.end();
    }

    private static void shared(PotSchools x, int ground, int child, int above, int below) {
        Due.fraction("share(" + ground + ", " + child + ")", x.share(ground, child, true),
            x.share(ground, child, false), above, below);
    }

    /** Of one GROUND alone there is one order. */
    private static void shareOfOne() {
        PotSchools x = Due.coast("SGa00Ca0");
        shared(x, 0, 0, 6, 1);
        Due.is("share(1, 0)", x.share(1, 0, true), UNKNOWN);
        Due.is("share(0, 1), below", x.share(0, 1, false), UNKNOWN);
    }

    // "a FRACTION": below (1 and more), of 0 too.
    private static void shareOfNothing() {
        PotSchools x = Due.coast("SGa00Gb01Gc02Gd03Ge10Gf11Cl0");
        for (int ground = 0; ground < 6; ground++) {
            shared(x, ground, 0, 0, 1);
        }
    }

    // "in each order as likely"; "in least terms"
    private static void shareInLeastTerms() {
        // By b, c, b, a, b, c: two crabs (in a and b) and a conger (in c). With b alone 3, with a alone 3, with both 3,
        // with a and c 5, with b and c 7, with all 7.
        PotSchools x = Due.coast("ST1T1T0T0Ga01Gb01Gc02Ca0");
        shared(x, 0, 0, 11, 6);
        shared(x, 1, 0, 17, 6);
        shared(x, 2, 0, 7, 3);
        PotSchools halves = Due.coast("ST1T0Gb01Ga01Ca0");
        shared(halves, 0, 0, 3, 2);
        shared(halves, 1, 0, 3, 2);
    }

    // "above (upper = true; below 0, if they are)"
    private static void shareBelowNone() {
        PotSchools whole = Due.coast("SGa01Gb03Ca0");
        whole.day();
        whole.set(0, 1);
        shared(whole, 1, 0, -3, 1);
        PotSchools half = Due.coast("ST1T0Gb01Ga03Ca0");
        shared(half, 1, 0, -3, 2);
        // By b, c, b, a, b, c: the ghost takes 2 of what the crab taught, and nothing without it.
        PotSchools third = Due.coast("ST1T1T0T0Gb01Gc03Gd00Ca0");
        shared(third, 1, 0, -1, 1);
        shared(third, 2, 0, 0, 1);
    }

    /** By b, c, d, h, h, h: four crabs of which the first that has come teaches all; two that it never comes to. */
    private static void shareOfSix() {
        PotSchools x = Due.coast("ST1T1T1T3Gb01Gc01Gd01Gh01Ge01Gi01Ca0");
        for (int ground = 0; ground < 6; ground++) {
            if (ground < 4) {
                shared(x, ground, 0, 3, 4);
            } else {
                shared(x, ground, 0, 0, 1);
            }
        }
        Due.is("share(6, 0)", x.share(6, 0, true), UNKNOWN);
    }

    // "its WEIGHT in 6 DAYS"
    private static void shareInSixDays() {
        shared(Due.coast("SGa00Ca0"), 0, 0, 6, 1);
        shared(Due.coast("SGa00Ca1"), 0, 0, 9, 1);
        shared(Due.coast("SGa00Ca2"), 0, 0, 3, 1);
        PotSchools late = Due.coast("ST4T4T4T1Gb00Gc00Ca0");
        // In b on DAYS 3 to 6, in c from DAY 7 on.
        shared(late, 0, 0, 3, 1);
        shared(late, 1, 0, 0, 1);
    }

    /** From now on, where it is, by what it knows, and with the others. */
    private static void shareFromNowOn() {
        PotSchools x = Due.coast("SGa00Gb02Ca0");
        Due.days(x, 3);
        shared(x, 0, 0, 6, 1);
        x.set(0, 1);
        shared(x, 0, 0, 0, 1);
        shared(x, 1, 0, 6, 1);
        PotSchools shy = Due.coast("ST1Gd00Cd3Ca0");
        // Alone on DAYS 0 and 1.
        shared(shy, 0, 0, 2, 1);
        shared(shy, 0, 1, 4, 1);
        shy.moor(1);
        shared(shy, 0, 0, 6, 1);
        shared(shy, 0, 1, 0, 1);
    }

    /** Nothing of a larger coast is left when a smaller one is asked about. */
    private static void shareOnASmallerCoast() {
        PotSchools x = Due.coast("SGa00Gb00Gc00Gd00Ge00Gf00Ca0");
        for (int ground = 0; ground < 6; ground++) {
            shared(x, ground, 0, ground == 0 ? 6 : 0, 1);
        }
        Due.write(x, "SGa00Gb01Ca0");
        x.coast();
        shared(x, 0, 0, 6, 1);
        shared(x, 1, 0, 0, 1);
        Due.write(x, "SGa01Ca0");
        x.coast();
        shared(x, 0, 0, 3, 1);
    }

    private static void rested(PotSchools x, int one, int other, int many, int first) {
        Due.is("rests(" + one + ", " + other + ", 0)", x.rests(one, other, 0), many);
        Due.is("rests(" + one + ", " + other + ", 1)", x.rests(one, other, 1), first);
    }

    // "how many; the first; NONE": where there is no GROUND there is no pair.
    private static void restsWithoutGrounds() {
        rested(Due.coast("SCa0Ca0"), 0, 1, 0, NONE);
    }

    private static void restsOfOneGround() {
        rested(Due.coast("SGf00Ca0Ca0"), 0, 1, 1, 0);
        rested(Due.coast("SGf03Cf0Cf3"), 1, 0, 1, 0);
    }

    // "(10 times the one GROUND and the other)"
    private static void restsOfSixGrounds() {
        rested(Due.coast("SGa02Gb02Gc02Gd02Ge02Gf02Cl0Cl0Cl0Cl0Cl0"), 0, 4, 36, 0);
        rested(Due.coast("SGa02Gb02Gc02Gd02Ge02Gf01Cl0Cl0Cl0Cl0Cl0"), 4, 3, 1, 55);
        rested(Due.coast("SGa02Gb02Gc01Gd02Ge02Gf01Cl0Cl0"), 0, 1, 4, 22);
        rested(Due.coast("SGa02Gb02Gc02Gd02Ge01Gf00Cl0Cl2"), 0, 1, 1, 54);
        rested(Due.coast("SGa02Gb02Gc02Gd02Ge01Gf00Cl0Cl2"), 1, 0, 1, 45);
    }

    // "then 5 DAYS go by"
    private static void restsInFiveDays() {
        // From DAY 1 a dreamy one has three odd days in five (two in four): as much weed as a crab teaches.
        PotSchools dreamy = Due.coast("SGa01Gb00Cl2Cl2");
        rested(dreamy, 0, 1, 1, 0);
        dreamy.day();
        rested(dreamy, 0, 1, 4, 0);
        // A conger teaches 6 more, weed 5 (in six days 6).
        PotSchools knowing = Due.coast("SGa01Gb02Gc10Ca0Ca0");
        knowing.day();
        rested(knowing, 0, 1, 1, 11);
    }

    // "neither has more by another GROUND alone": the one and the other, as they are named.
    private static void restsOfOneAndOther() {
        PotSchools x = Due.coast("SGa00Gb01Cl0Cl0Cl2");
        rested(x, 0, 2, 1, 1);
        rested(x, 2, 0, 1, 10);
        rested(x, 0, 1, 1, 0);
        Due.is("rests(1, 1, 0)", x.rests(1, 1, 0), OUTSIDE);
        Due.is("rests(0, 1, 2)", x.rests(0, 1, 2), OUTSIDE);
        Due.is("rests(0, 1, -1)", x.rests(0, 1, -1), OUTSIDE);
        Due.is("rests(0, 3, 0)", x.rests(0, 3, 0), UNKNOWN);
    }

    // "and MOORED": whether they are now or not.
    private static void restsMoored() {
        // Not moored they would go from the weed in c to the crab in d, and have no more by the one than the other.
        PotSchools x = Due.coast("ST1Gc00Gd01Ca0Cl0");
        rested(x, 0, 1, 1, 0);
        rested(x, 1, 0, 1, 0);
        x.moor(0);
        rested(x, 0, 1, 1, 0);
        x.moor(1);
        rested(x, 0, 1, 1, 0);
        Due.is("they are moored as they were", x.count(7), 3);
        Due.is("they are where they were", x.count(6), 1 | 1 << 11);
    }

    /** A third one goes on with the tide, and keeps a shy one from learning where it is. */
    private static void restsAmongOthers() {
        PotSchools x = Due.coast("SGa00Gb01Cl3Cl0Ca0");
        rested(x, 0, 1, 1, 10);
        x.set(2, 5);
        // With the other one in a, the shy one has 3 in b: neither has more elsewhere.
        rested(x, 0, 1, 1, 10);
        PotSchools far = Due.coast("ST1Gd00Gl10Cl3Cl3Ca0");
        // The third one comes to d on DAY 2: two days of weed there, five in l.
        rested(far, 0, 1, 2, 1);
        far.moor(2);
        rested(far, 0, 1, 2, 1);
    }

    /** Both in one GROUND is a pair too: shy ones have nothing there. */
    private static void restsOfShyOnes() {
        rested(Due.coast("SGa00Gb00Ca3Ca3"), 0, 1, 2, 1);
        rested(Due.coast("SGa00Gb01Gc02Ca3Ca3"), 0, 1, 2, 1);
        PotSchools ghosts = Due.coast("SGa00Gb03Gc03Ca3Cd3");
        ghosts.day();
        ghosts.set(0, 3);
        ghosts.set(1, 0);
        ghosts.day();
        // Each knows 1: in a it has 6, with a ghost 0, both in one 1.
        rested(ghosts, 0, 1, 1, 0);
    }

    /** The plain one has the weed, whatever the shy one does; the shy one has the crab then. */
    private static void restsBesideAShyOne() {
        PotSchools first = Due.coast("SGa00Gb01Gc02Gd02Ge02Gf02Cl0Cl3");
        rested(first, 0, 1, 1, 1);
        rested(first, 1, 0, 1, 10);
        PotSchools last = Due.coast("SGa02Gb02Gc02Gd02Ge01Gf00Cl0Cl3");
        rested(last, 0, 1, 1, 54);
        rested(last, 1, 0, 1, 45);
    }

    /** Nothing of a larger coast is left when a smaller one is asked about. */
    private static void restsOnASmallerCoast() {
        PotSchools x = Due.coast("SGa00Gb00Gc00Gd00Ge00Gf00Cl1Cl1");
        rested(x, 0, 1, 36, 0);
        Due.write(x, "SGa01Gb01Cl0Cl0");
        x.coast();
        rested(x, 0, 1, 4, 0);
        Due.write(x, "SCl0Cl0");
        x.coast();
        rested(x, 0, 1, 0, NONE);
    }

    private static void failed(PotSchools x, int v, int n, int tenths, int above, int below) {
        Due.fraction("fails(0, 0, " + v + ", " + n + ", " + tenths + ")", x.fails(0, 0, v, n, tenths, true),
            x.fails(0, 0, v, n, tenths, false), above, below);
    }

    // "by x tenths (0 to 10)": 0, and it goes as without.
    private static void failsNever() {
        PotSchools x = Due.coast("ST1Gb00Gd01Ca0");
        for (int n = 1; n <= 6; n++) {
            int known = x.ahead(0, 0, n);
            failed(x, known, n, 0, 1, 1);
            failed(x, known + 1, n, 0, 0, 1);
        }
    }

    // 10: no pot goes.
    private static void failsAlways() {
        PotSchools x = Due.coast("ST1Ga00Gb01Ca0");
        for (int n = 1; n <= 6; n++) {
            failed(x, n, n, 10, 1, 1);
            failed(x, n + 1, n, 10, 0, 1);
        }
    }

    private static void failsByTenths() {
        PotSchools x = Due.coast("ST1Gb00Ca0");
        int[][] goes = {{1, 1}, {9, 10}, {4, 5}, {7, 10}, {3, 5}, {1, 2}, {2, 5}, {3, 10}, {1, 5}, {1, 10}, {0, 1}};
        for (int tenths = 0; tenths <= 10; tenths++) {
            failed(x, 1, 1, tenths, goes[tenths][0], goes[tenths][1]);
        }
        failed(x, 1, 1, 11, OUTSIDE, OUTSIDE);
        failed(x, 1, 1, -1, OUTSIDE, OUTSIDE);
        PotSchools there = Due.coast("ST1Ga00Ca0");
        for (int tenths = 0; tenths <= 10; tenths++) {
            int[] stays = goes[10 - tenths];
            failed(there, 1, 1, tenths, stays[0], stays[1]);
        }
    }

    // "each of n DAYS (1 to 6) from now on"
    private static void failsInSixDays() {
        PotSchools x = Due.coast("ST1Ga00Ca0");
        failed(x, 1, 1, 1, 1, 10);
        failed(x, 2, 2, 1, 1, 100);
        failed(x, 6, 6, 1, 1, 1000000);
        failed(x, 6, 6, 9, 531441, 1000000);
        failed(x, 1, 0, 5, OUTSIDE, OUTSIDE);
        failed(x, 1, 7, 5, OUTSIDE, OUTSIDE);
        Due.days(x, 3);
        x.set(0, 0);
        failed(x, 6, 6, 1, 1, 1000000);
    }

    // "by itself (no pot goes)": THE DAY goes on all the same, and with it the TIDES.
    private static void failsByItself() {
        PotSchools x = Due.coast("ST1T3Ge00Ca0");
        // Into e only if the TIDE of DAY 0 fails and that of DAY 1 does not.
        failed(x, 1, 2, 3, 21, 100);
        failed(x, 1, 1, 3, 0, 1);
        PotSchools dreamy = Due.coast("ST1Gb00Ca2");
        // In b on DAY 1 if the TIDE failed once of twice.
        failed(dreamy, 1, 2, 5, 1, 2);
        failed(dreamy, 1, 2, 2, 8, 25);
    }

    // "that a CHILD knows v (0 to 9) or more": 0 is known always.
    private static void failsOfAmounts() {
        PotSchools x = Due.coast("ST1Gb00Ca0");
        failed(x, 0, 6, 5, 1, 1);
        failed(x, 7, 6, 5, 0, 1);
        failed(x, 9, 6, 5, 0, 1);
        failed(x, 10, 6, 5, OUTSIDE, OUTSIDE);
        failed(x, -1, 6, 5, OUTSIDE, OUTSIDE);
        PotSchools knowing = Due.coast("ST1Gd00Gc03Cd0");
        Due.days(knowing, 9);
        failed(knowing, 9, 6, 5, 1, 1);
        PotSchools lost = Due.coast("ST1Ga01Gb03Ca0");
        lost.moor(0);
        lost.day();
        lost.moor(0);
        // It loses 1 if it has gone to b.
        failed(lost, 3, 1, 4, 2, 5);
        failed(lost, 2, 1, 4, 1, 1);
    }

    /** On a day all pots go or none: a shy one is alone in b if both have gone on, not if neither has. */
    private static void failsForAllPots() {
        PotSchools x = Due.coast("ST1Gb00Ca3Cb0");
        failed(x, 1, 1, 3, 7, 10);
        PotSchools moored = Due.coast("ST1Gb00Ca3Cb0");
        moored.moor(1);
        failed(moored, 1, 1, 3, 0, 1);
        Due.is("fails of the other, above", moored.fails(1, 0, 2, 2, 5, true), 1);
        Due.is("fails of the other, below", moored.fails(1, 0, 2, 2, 5, false), 1);
        Due.is("fails of nobody", moored.fails(2, 0, 0, 1, 0, true), UNKNOWN);
        Due.is("fails of SUBJECT 5", moored.fails(0, 5, 0, 1, 0, true), UNKNOWN);
        Due.is("fails of SUBJECT 4", moored.fails(0, 4, 0, 1, 0, true), 1);
    }

    private static void failsInLeastTerms() {
        PotSchools x = Due.coast("ST1Ga00Ca0");
        failed(x, 2, 2, 5, 1, 4);
        failed(x, 3, 3, 5, 1, 8);
        failed(x, 6, 6, 5, 1, 64);
        failed(x, 6, 6, 2, 1, 15625);
        failed(x, 6, 6, 8, 4096, 15625);
        failed(x, 6, 6, 3, 729, 1000000);
    }

    // "THE SEED, a long; 0 at first"; "THE SEED is v: what it was."
    private static void seedOfAnyLong() {
        PotSchools x = new PotSchools();
        long[] seeds = {0, 1, -1, Long.MAX_VALUE, Long.MIN_VALUE, 1L << 32, -(1L << 31), 0};
        long was = 0;
        for (long seed : seeds) {
            Due.is("seed(" + seed + ")", x.seed(seed), was);
            was = seed;
        }
    }

    private static long wrapped(long x) {
        return BigInteger.valueOf(x).multiply(BigInteger.valueOf(TIMES)).add(BigInteger.valueOf(MORE)).longValue();
    }

    // "(64 bits, wrapping)"
    private static void seedWraps() {
        long[] seeds = {0, 1, 2, -1, Long.MAX_VALUE, Long.MIN_VALUE, 1L << 62, -MORE, TIMES};
        for (long seed : seeds) {
            PotSchools x = new PotSchools();
            x.seed(seed);
            x.generations(1);
            Due.is("behind the seed " + seed, x.seed(seed), wrapped(seed));
            long far = seed;
            for (int i = 0; i < 30; i++) {
                far = wrapped(far);
            }
            x.generations(30);
            Due.is("30 behind the seed " + seed, x.seed(0), far);
        }
    }

    // "m times (1 to 30)"
    private static void generationsAtTheEnds() {
        PotSchools x = Due.coast("SGa00Ca0");
        Due.is("generations(0)", x.generations(0), OUTSIDE);
        Due.is("generations(31)", x.generations(31), OUTSIDE);
        Due.is("generations(-1)", x.generations(-1), OUTSIDE);
        Due.is("THE SEED is as it was", x.seed(0), 0);
        Due.holds("generations(1)", x.generations(1) >= 0);
        Due.is("one on", x.seed(0), MORE);
        Due.holds("generations(30)", x.generations(30) >= 0);
    }

    /** The seed from which the next one leaves so much: the next one is made first, and gone back from. */
    private static long before(long next) {
        BigInteger all = BigInteger.ONE.shiftLeft(64);
        return BigInteger.valueOf(next).subtract(BigInteger.valueOf(MORE))
            .multiply(BigInteger.valueOf(TIMES).modInverse(all)).mod(all).longValue();
    }

    private static long leaving(int left) {
        return before((long) left << 33);
    }

    private static int once(PotSchools x, long seed) {
        x.seed(seed);
        return x.generations(1);
    }

    // "its upper 31 bits by 32, what is left": lower bits and higher ones do not matter.
    private static void generationsByWhatIsLeft() {
        PotSchools x = Due.coast("SGa01Gb00Ca0Cb0");
        x.day();
        for (int left = 0; left < 32; left++) {
            int want = left == 12 ? 1 : left == 13 ? 3 : left >= 17 ? 5 : 4;
            long next = (long) left << 33;
            Due.is("left " + left, once(x, before(next)), want);
            Due.is("left " + left + ", lower bits", once(x, before(next | (1L << 33) - 1)), want);
            Due.is("left " + left + ", higher bits", once(x, before(next | -1L << 38)), want);
            Due.is("left " + left + ", the highest bit", once(x, before(next | Long.MIN_VALUE)), want);
        }
    }

    /** A seed that leaves the one, and then the other. */
    private static long leaving(int one, int other) {
        for (long lower = 0; lower < 1L << 20; lower++) {
            long next = (long) one << 33 | lower << 13;
            if ((wrapped(next) >>> 33) % 32 == other) {
                return before(next);
            }
        }
        throw new IllegalStateException("no seed for " + one + " and " + other);
    }

    private static int twice(PotSchools x, int one, int other) {
        x.seed(leaving(one, other));
        return x.generations(2);
    }

    // "0 to 11: CHILD 0 is SET in that CELL, if there is such a one and it is in another one"
    private static void generationsSet() {
        for (int cell = 0; cell < 12; cell++) {
            PotSchools x = Due.coast("SG" + (char) ('a' + cell) + "01Cf0");
            Due.is("SET in " + cell + ", then A DAY", twice(x, cell, 17), 3);
            Due.is("SET elsewhere, then A DAY", twice(x, (cell + 1) % 12, 31), 0);
        }
        PotSchools others = Due.coast("SGa01Cb0Cb0");
        Due.is("CHILD 0 alone is SET", twice(others, 0, 20), 3);
        PotSchools nobody = Due.coast("SGa01");
        Due.is("nobody is SET", twice(nobody, 0, 17), 0);
        PotSchools there = Due.coast("ST1Gb01Ca0");
        there.moor(0);
        Due.is("SET where it is", twice(there, 0, 17), 0);
        Due.is("SET, moored as it is", twice(there, 1, 17), 3);
    }

    // "12 to 16: that less 12 CHILD is PUT BACK, if there is such a one"
    private static void generationsPutBack() {
        PotSchools x = Due.coast("SGa01Ca0Ca1Ca0Ca1Ca0");
        x.day();
        int all = 3 + 4 + 3 + 4 + 3;
        for (int child = 0; child < 5; child++) {
            Due.is("PUT BACK of " + child, once(x, leaving(12 + child)), all - (child % 2 == 0 ? 3 : 4));
        }
        Due.is("PUT BACK of one that knows nothing", twice(x, 12, 12), 2 * (all - 3));
        PotSchools one = Due.coast("SGf00Cf0");
        one.day();
        for (int left = 13; left <= 16; left++) {
            Due.is("nobody to be PUT BACK by " + left, once(one, leaving(left)), 1);
            Due.is("nobody, then A DAY", twice(one, left, 17), 1 + 2);
        }
        Due.is("nobody at all", once(Due.coast("SGa00"), leaving(12)), 0);
    }

    // "17 and more A DAY"
    private static void generationsDays() {
        PotSchools x = Due.coast("SGa00Ca0");
        Due.is("16 is no day", once(x, leaving(16)), 0);
        for (int left = 17; left <= 31; left++) {
            Due.is("A DAY by " + left, once(x, leaving(left)), 1);
        }
        PotSchools dreamy = Due.coast("ST4T1Gb00Ca2");
        Due.is("two days of a dreamy one: THE DAY and the TIDES go on", twice(dreamy, 17, 31), 1);
        dreamy.day();
        Due.is("from DAY 1", once(dreamy, leaving(17)), 1);
    }

    // "WEIGHTS of all CHILDREN, each time, together"
    private static void generationsTogether() {
        PotSchools x = Due.coast("SGa00Ca0Ca1");
        Due.is("3, then 6", twice(x, 17, 17), 9);
        x.day();
        Due.is("3 by SET, then 3 and 2 more", twice(x, 5, 17), 3 + 5);
        Due.is("2 by PUT BACK, then 5", twice(x, 12, 17), 2 + 5);
    }

    // "(Nothing changes but THE SEED.)"
    private static void generationsChangeTheSeedAlone() {
        PotSchools x = Due.coast("SGa00Ca0");
        x.day();
        x.seed(leaving(17));
        Due.is("generations(1)", x.generations(1), 2);
        Due.is("THE SEED is the next one", x.seed(leaving(17)), 17L << 33);
        Due.is("generations(1), the same from the same", x.generations(1), 2);
        Due.is("WEIGHTS", x.count(8), 1);
        Due.is("THE DAY", x.count(4), 1);
        Due.is("ACTS", x.count(10), 1);
    }
}
