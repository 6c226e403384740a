/** Promises 14 to 19: ahead, later, enough, best, fit, judge. */
public final class AheadTest {
    private static final int NONE = PotSchools.NONE, UNKNOWN = PotSchools.UNKNOWN;
    private static final int OUTSIDE = PotSchools.OUTSIDE;

    public static void main(String[] args) {
        ahead();
        later();
        enough();
        best();
        fit();
        judgeDoings();
        judgeRows();
        nothingChanges();
        Due.end();
    }

    private static void ahead() {
        PotSchools x = Due.coast("ST1T0Gb00Ga11Ca0");
        int[] ofWeed = {0, 1, 1, 2, 2, 3};
        for (int n = 0; n < ofWeed.length; n++) {
            Due.is("ahead(0, 0, " + n + ")", x.ahead(0, 0, n), ofWeed[n]);
            Due.is("ahead(0, 1, " + n + ")", x.ahead(0, 1, n), n < 2 ? 0 : 3);
        }
        Due.is("ahead(0, 0, 20)", x.ahead(0, 0, 20), 9);
        x.day();
        Due.is("ahead(0, 1, 1) from day 1", x.ahead(0, 1, 1), 3);
        Due.is("ahead(1, 0, 0)", x.ahead(1, 0, 0), UNKNOWN);
        Due.is("ahead(-1, 0, 0)", x.ahead(-1, 0, 0), UNKNOWN);
        Due.is("ahead(0, 5, 21)", x.ahead(0, 5, 21), UNKNOWN);
        Due.is("ahead(0, -1, 0)", x.ahead(0, -1, 0), UNKNOWN);
        Due.is("ahead(0, 0, 21)", x.ahead(0, 0, 21), OUTSIDE);
        Due.is("ahead(0, 0, -1)", x.ahead(0, 0, -1), OUTSIDE);
    }

    private static void later() {
        PotSchools x = Due.coast("ST1T0Gb00Ga11Ca0");
        for (int n = 0; n <= 20; n++) {
            Due.is("later(0, " + n + ", 0)", x.later(0, n, 0), n % 2);
        }
        Due.is("later(0, 0, 1)", x.later(0, 0, 1), 0);
        Due.is("later(0, 3, 1)", x.later(0, 3, 1), 5);
        Due.is("later(0, 20, 1)", x.later(0, 20, 1), 12);
        Due.is("later(1, 0, 0)", x.later(1, 0, 0), UNKNOWN);
        Due.is("later(-1, 21, 2)", x.later(-1, 21, 2), UNKNOWN);
        Due.is("later(0, 21, 0)", x.later(0, 21, 0), OUTSIDE);
        Due.is("later(0, -1, 0)", x.later(0, -1, 0), OUTSIDE);
        Due.is("later(0, 0, 2)", x.later(0, 0, 2), OUTSIDE);
        Due.is("later(0, 0, -1)", x.later(0, 0, -1), OUTSIDE);
    }

    private static void enough() {
        PotSchools x = Due.coast("ST1T0Gb00Ga11Ca0");
        Due.is("enough(0, 0, 1)", x.enough(0, 0, 1), 1);
        Due.is("enough(0, 0, 2)", x.enough(0, 0, 2), 3);
        Due.is("enough(0, 0, 9)", x.enough(0, 0, 9), 17);
        Due.is("enough(0, 1, 1)", x.enough(0, 1, 1), 2);
        Due.is("enough(0, 1, 4)", x.enough(0, 1, 4), NONE);
        Due.is("enough(0, 2, 1)", x.enough(0, 2, 1), NONE);
        x.day();
        Due.is("enough(0, 0, 1), now", x.enough(0, 0, 1), 0);
        Due.is("enough(1, 0, 1)", x.enough(1, 0, 1), UNKNOWN);
        Due.is("enough(0, 5, 0)", x.enough(0, 5, 0), UNKNOWN);
        Due.is("enough(0, 0, 0)", x.enough(0, 0, 0), OUTSIDE);
        Due.is("enough(0, 0, 10)", x.enough(0, 0, 10), OUTSIDE);
        PotSchools slow = Due.coast("ST4T0T4T1Gb00Cb2");
        Due.is("enough on the 20th day", slow.enough(0, 0, 5), 20);
        Due.is("enough behind it", slow.enough(0, 0, 6), NONE);
        // What is forgotten later was known all the same.
        PotSchools lost = Due.coast("ST1Gb01Gd03Ca0");
        Due.is("enough first", lost.enough(0, 0, 3), 1);
        Due.is("forgotten", lost.ahead(0, 0, 20), 0);
    }

    private static void best() {
        PotSchools x = Due.coast("SGa00Gf01Gl02Cc0");
        Due.is("best(0, 1, 0)", x.best(0, 1, 0), 5);
        Due.is("best(0, 1, 1)", x.best(0, 1, 1), 3);
        Due.is("best(0, 3, 0), of like ones", x.best(0, 3, 0), 0);
        Due.is("best(0, 4, 1)", x.best(0, 4, 1), 4);
        Due.is("best(0, 12, 1)", x.best(0, 12, 1), 9);
        PotSchools tide = Due.coast("ST1Gd00Ca0");
        Due.is("best(0, 5, 0), no ground's cell", tide.best(0, 5, 0), 2);
        Due.is("best(0, 5, 1)", tide.best(0, 5, 1), 5);
        tide.moor(0);
        Due.is("best(0, 5, 0), moored", tide.best(0, 5, 0), 3);
        PotSchools left = Due.coast("SGb00Cb0");
        Due.is("best(0, 2, 0), left there", left.best(0, 2, 0), 1);
        PotSchools shy = Due.coast("SGa00Gb01Cl3Ca0");
        Due.is("best(0, 5, 0), a shy one", shy.best(0, 5, 0), 1);
        Due.is("best(0, 5, 1), a shy one", shy.best(0, 5, 1), 3);
        Due.is("best(2, 1, 0)", shy.best(2, 1, 0), UNKNOWN);
        Due.is("best(-1, 0, 2)", shy.best(-1, 0, 2), UNKNOWN);
        Due.is("best(0, 0, 0)", shy.best(0, 0, 0), OUTSIDE);
        Due.is("best(0, 13, 0)", shy.best(0, 13, 0), OUTSIDE);
        Due.is("best(0, 1, 2)", shy.best(0, 1, 2), OUTSIDE);
        Due.is("best(0, 1, -1)", shy.best(0, 1, -1), OUTSIDE);
        PotSchools bare = Due.coast("SCf0");
        Due.is("best of nothing", bare.best(0, 1, 0), 0);
        Due.is("best of nothing, how much", bare.best(0, 1, 1), 0);
    }

    private static void fit() {
        Due.is("fit() of nobody", Due.coast("SGa00").fit(), 0);
        Due.is("fit() of two plain ones", Due.coast("SGa00Gb01Cl0Cl0").fit(), 7);
        Due.is("fit() of a quick one", Due.coast("SGa00Gb01Ca0Cb1").fit(), 11);
        Due.is("fit() of one, three grounds", Due.coast("SGa02Gb01Gc00Cl0").fit(), 4);
        Due.is("fit(), fewer grounds", Due.coast("SGa00Cl0Cl0").fit(), NONE);
        Due.is("fit(), no grounds", Due.coast("SCl0").fit(), NONE);
        PotSchools tide = Due.coast("ST1Ga00Gb01Cl0");
        Due.is("fit() with a tide", tide.fit(), 3);
        tide.moor(0);
        Due.is("fit() moored", tide.fit(), 4);
        // Moored in d the first one drives off nobody; the shy one goes on to d and learns nothing.
        PotSchools shy = Due.coast("ST1Gd00Gc01Cl0Cl3");
        shy.moor(0);
        Due.is("fit() of a shy one", shy.fit(), 7);
        PotSchools known = Due.coast("SGa01Gb03Ca0Cl2");
        known.day();
        Due.is("fit(), knowing from before", known.fit(), 3);
        Due.is("fit() of six and five", Due.coast("SGa00Gb00Gc00Gd00Ge00Gf02Cl0Cl0Cl0Cl0Cl0").fit(), 20);
    }

    private static void judged(PotSchools x, int n, long row, int want) {
        Due.is("judge(" + n + ", " + row + ")", x.judge(n, row), want);
    }

    private static void judgeDoings() {
        PotSchools x = Due.coast("SGa01Ca0Cb0");
        long[] can = {0, 1001, 1011, 1100, 2000, 2001, 4000, 4140};
        for (int i = 0; i < can.length; i++) {
            judged(x, 1, can[i], NONE);
        }
        long[] canNot = {1, 10, 100, 999, 1000, 1012, 1099, 1101, 1200, 1911, 2002, 2010, 2100, 2009, 3000, 3001, 3002,
            4001, 4050, 4090, 4200, 4900, 5000, 6000, 7000, 8000, 9000, 9999};
        for (int i = 0; i < canNot.length; i++) {
            judged(x, 1, canNot[i], 0);
        }
        judged(x, 2, 3000L, NONE);
        judged(x, 2, 3001L, 1);
        judged(x, 2, 3010L, 1);
        judged(x, 2, 3100L, 1);
        judged(x, 2, 4003L, NONE);
        judged(x, 2, 4004L, 1);
        judged(x, 3, 30003000L, 2);
        judged(x, 3, 30004000L, NONE);
        judged(x, 3, 30004001L, 2);
        judged(x, 2, 10111011L, 1);
        judged(x, 3, 101110001011L, NONE);
        judged(x, 4, 1100000041034003L, NONE);
        judged(x, 4, 1100000041034004L, 3);
        judged(x, 4, 5000500050005000L, 0);
        PotSchools tide = Due.coast("ST1Gb00Ca0");
        judged(tide, 3, 200000004001L, 2);
        judged(tide, 4, 2000200000004001L, NONE);
    }

    private static void judgeRows() {
        PotSchools x = Due.coast("SGa01Ca0Cb0");
        judged(x, 0, 0, OUTSIDE);
        judged(x, 5, 0, OUTSIDE);
        judged(x, -1, 0, OUTSIDE);
        judged(x, Integer.MAX_VALUE, 0, OUTSIDE);
        judged(x, 1, -1, OUTSIDE);
        judged(x, 1, 10000, OUTSIDE);
        judged(x, 2, 10000, 0);
        judged(x, 2, 100000000L, OUTSIDE);
        judged(x, 3, 1000000000000L, OUTSIDE);
        judged(x, 4, 9999999999999999L, 0);
        judged(x, 4, 10000000000000000L, OUTSIDE);
        judged(x, 4, Long.MAX_VALUE, OUTSIDE);
        judged(x, 4, Long.MIN_VALUE, OUTSIDE);
        judged(x, 4, 0, NONE);
    }

    private static void nothingChanges() {
        PotSchools x = Due.coast("ST1T3Ga00Gb11Gg22Ca0Cb3");
        Due.days(x, 1);
        x.moor(1);
        String seen = Due.seen(x);
        x.ahead(0, 0, 20);
        x.later(0, 20, 1);
        x.enough(0, 0, 9);
        x.best(0, 12, 0);
        x.fit();
        x.judge(4, 1011200100000000L);
        x.rests(0, 1, 0);
        x.share(0, 0, true);
        x.fails(0, 0, 1, 6, 5, true);
        x.generations(30);
        Due.same("asking changes nothing", Due.seen(x), seen);
    }
}
