/** The edges that the document names of KNEW and BEGAN: promises 20 to 22, a sentence a test. */
public final class BeganEdgesTest {
    private static final int ALL = 4095;
    private static final int UNKNOWN = PotSchools.UNKNOWN, OUTSIDE = PotSchools.OUTSIDE, FULL = PotSchools.FULL;

    public static void main(String[] args) {
        knewSubjects();
        knewDays();
        knewAmounts();
        sixAtMost();
        forgetEmptyAndFull();
        beganByNothing();
        beganKnowingNothing();
        beganInNone();
        beganInEachCell();
        beganByTides();
        beganAtTheEdge();
        beganBehindNineDays();
        beganByJustSoMuch();
        beganAsAPlainOne();
        beganAlone();
        beganNotMoored();
        beganOnDayZero();
        Due.end();
    }

    // "UNKNOWN: subject": 0 to 4.
    private static void knewSubjects() {
        PotSchools x = new PotSchools();
        for (int subject = 0; subject <= 4; subject++) {
            Due.is("knew(" + subject + ", 0, 0)", x.knew(subject, 0, 0), subject + 1);
        }
        Due.is("knew(5, 0, 0)", x.knew(5, 0, 0), UNKNOWN);
        Due.is("knew(-1, 0, 0)", x.knew(-1, 0, 0), UNKNOWN);
        Due.is("KNEW", x.count(11), 5);
    }

    // "behind n DAYS (0 to 9)"
    private static void knewDays() {
        for (int n = 0; n <= 9; n++) {
            Due.is("knew(0, " + n + ", 0)", new PotSchools().knew(0, n, 0), 1);
        }
        Due.is("knew(0, -1, 0)", new PotSchools().knew(0, -1, 0), OUTSIDE);
        Due.is("knew(0, 10, 0)", new PotSchools().knew(0, 10, 0), OUTSIDE);
    }

    // "knew v (0 to 9)"
    private static void knewAmounts() {
        for (int v = 0; v <= 9; v++) {
            Due.is("knew(0, 0, " + v + ")", new PotSchools().knew(0, 0, v), 1);
        }
        Due.is("knew(0, 0, -1)", new PotSchools().knew(0, 0, -1), OUTSIDE);
        Due.is("knew(0, 0, 10)", new PotSchools().knew(0, 0, 10), OUTSIDE);
    }

    // "6 such at most, none at first"
    private static void sixAtMost() {
        PotSchools x = Due.coast("SGa00");
        Due.is("none at first", x.count(11), 0);
        for (int i = 1; i <= 6; i++) {
            Due.is("the KNEW " + i, x.knew(0, i, i), i);
        }
        Due.is("the seventh", x.knew(0, 7, 0), FULL);
        Due.is("KNEW", x.count(11), 6);
        Due.is("began() by six", x.began(), 1);
    }

    // "Nothing is KNEW: how much there was."
    private static void forgetEmptyAndFull() {
        PotSchools x = Due.coast("SGa00");
        Due.is("forget() of none", x.forget(), 0);
        for (int i = 0; i < 6; i++) {
            x.knew(0, 0, 9);
        }
        Due.is("began() by what can not be", x.began(), 0);
        Due.is("forget() of six", x.forget(), 6);
        Due.is("KNEW", x.count(11), 0);
        Due.is("began() by nothing", x.began(), ALL);
        Due.is("there is room again", x.knew(0, 1, 1), 1);
        Due.is("began() by the new one alone", x.began(), 1);
    }

    /** By nothing that it KNEW it may have been let down anywhere. */
    private static void beganByNothing() {
        Due.is("began() of a new object", new PotSchools().began(), ALL);
        Due.is("began() on a coast", Due.coast("ST1Ga00Ca0").began(), ALL);
    }

    // "knowing nothing": behind 0 DAYS it knew 0 of each.
    private static void beganKnowingNothing() {
        PotSchools x = Due.coast("SGa00");
        x.knew(0, 0, 0);
        x.knew(4, 0, 0);
        Due.is("began(), 0 behind 0 days", x.began(), ALL);
        x.knew(0, 0, 1);
        Due.is("began(), 1 behind 0 days", x.began(), 0);
    }

    // "so that all that it KNEW is so": where two can not both be, there is no CELL.
    private static void beganInNone() {
        PotSchools x = Due.coast("SGa00Gb10");
        x.knew(0, 1, 1);
        Due.is("began() in a", x.began(), 1);
        x.knew(1, 1, 1);
        Due.is("began() in a and in b", x.began(), 0);
        PotSchools bare = new PotSchools();
        bare.knew(0, 9, 1);
        Due.is("began() where nothing is taught", bare.began(), 0);
    }

    // "CELLS (bits)"
    private static void beganInEachCell() {
        for (int cell = 0; cell < 12; cell++) {
            PotSchools x = Due.coast("SG" + (char) ('a' + cell) + "00");
            x.knew(0, 1, 1);
            Due.is("began() in cell " + cell, x.began(), 1 << cell);
            x.forget();
            x.knew(0, 1, 0);
            Due.is("began() but in cell " + cell, x.began(), ALL - (1 << cell));
        }
    }

    /** Three tides by turns: each day has its own, from that of DAY 0 on. */
    private static void beganByTides() {
        PotSchools x = Due.coast("ST1T3T3Gj01");
        // From a by b, f, j.
        x.knew(0, 2, 0);
        x.knew(0, 3, 3);
        Due.is("began(), there behind three days", x.began(), 1);
        x.forget();
        x.knew(0, 2, 3);
        // From e by f, j.
        Due.is("began(), there behind two days or sooner", x.began(), 1 << 4 | 1 << 8);
        PotSchools four = Due.coast("ST1T1T3T2Gc00");
        // From a: b, c, g, c, d; from b: c, d, h, d, d; from c: d, d, h, d, d; from e: f, g, k, g, h.
        four.knew(0, 4, 2);
        Due.is("began(), twice there", four.began(), 1);
    }

    // "where there is no such CELL it stays"
    private static void beganAtTheEdge() {
        PotSchools x = Due.coast("ST1Gd00");
        x.knew(0, 2, 2);
        Due.is("began(), two days at the edge", x.began(), 4 | 8);
        x.knew(0, 9, 9);
        Due.is("began(), nine days at the edge", x.began(), 4 | 8);
        x.forget();
        x.knew(0, 3, 1);
        Due.is("began(), one day at the edge", x.began(), 1);
    }

    private static void beganBehindNineDays() {
        PotSchools x = Due.coast("ST1T4T4T4Gb01Gc02");
        // From a: b on DAYS 0 to 3, c on DAYS 4 to 7, d then.
        x.knew(0, 9, 9);
        Due.is("began(), 9 behind nine days", x.began(), 1);
        x.knew(0, 6, 7);
        Due.is("began(), 7 behind six days", x.began(), 1);
        x.knew(0, 5, 7);
        Due.is("began(), 7 behind five days", x.began(), 0);
    }

    /** It knew v, not v or more. */
    private static void beganByJustSoMuch() {
        PotSchools x = Due.coast("SGa00Gb01");
        x.knew(0, 2, 2);
        Due.is("began(), 2 behind two days", x.began(), 1);
        x.forget();
        x.knew(0, 2, 3);
        Due.is("began(), 3 behind two days", x.began(), 2);
        x.forget();
        x.knew(0, 3, 3);
        Due.is("began(), 3 behind three days", x.began(), 3);
        x.forget();
        x.knew(0, 3, 1);
        Due.is("began(), 1 behind three days", x.began(), 0);
    }

    // "a PLAIN CHILD": whatever the children of the coast are.
    private static void beganAsAPlainOne() {
        for (int kind = 0; kind < 4; kind++) {
            PotSchools x = Due.coast("SGa00Ca" + kind);
            x.knew(0, 1, 1);
            x.knew(0, 2, 2);
            Due.is("began(), a child of kind " + kind, x.began(), 1);
        }
    }

    // "let down alone": the children of the coast are not there.
    private static void beganAlone() {
        PotSchools x = Due.coast("ST1Gb00Cb3Cb3Ca0Ca3Ca1");
        x.knew(0, 1, 1);
        Due.is("began(), among five", x.began(), 1);
    }

    // "not MOORED"
    private static void beganNotMoored() {
        PotSchools x = Due.coast("ST1Gb00Ca0");
        x.moor(0);
        x.knew(0, 1, 1);
        Due.is("began(), CHILD 0 moored", x.began(), 1);
    }

    // "on DAY 0, knowing nothing": whatever THE DAY is, and whatever CHILD 0 knows.
    private static void beganOnDayZero() {
        PotSchools x = Due.coast("ST1T0Gb01Cb0");
        x.moor(0);
        Due.days(x, 3);
        x.knew(0, 1, 3);
        Due.is("began(), THE DAY is odd", x.began(), 1);
        x.knew(0, 0, 0);
        Due.is("began(), CHILD 0 knows 3", x.began(), 1);
        x.day();
        Due.is("began(), THE DAY is even", x.began(), 1);
    }
}
