/** Promises 20 to 22: knew, forget, began. */
public final class BeganTest {
    private static final int UNKNOWN = PotSchools.UNKNOWN, OUTSIDE = PotSchools.OUTSIDE, FULL = PotSchools.FULL;

    public static void main(String[] args) {
        knew();
        forget();
        began();
        beganAlone();
        Due.end();
    }

    private static void knew() {
        PotSchools x = new PotSchools();
        Due.is("knew(5, 10, 10)", x.knew(5, 10, 10), UNKNOWN);
        Due.is("knew(-1, 0, 0)", x.knew(-1, 0, 0), UNKNOWN);
        Due.is("knew(0, 10, 0)", x.knew(0, 10, 0), OUTSIDE);
        Due.is("knew(0, -1, 0)", x.knew(0, -1, 0), OUTSIDE);
        Due.is("knew(0, 0, 10)", x.knew(0, 0, 10), OUTSIDE);
        Due.is("knew(0, 0, -1)", x.knew(0, 0, -1), OUTSIDE);
        Due.is("KNEW", x.count(11), 0);
        for (int i = 1; i <= 6; i++) {
            Due.is("knew(4, 9, 0)", x.knew(4, 9, 0), i);
        }
        Due.is("knew, a seventh", x.knew(4, 9, 0), FULL);
        Due.is("knew, outside first", x.knew(4, 10, 0), OUTSIDE);
        Due.is("knew, unknown first", x.knew(5, 0, 0), UNKNOWN);
        Due.is("KNEW of six", x.count(11), 6);
        Due.is("began() is not hurt by the seventh", x.began(), 4095);
    }

    private static void forget() {
        PotSchools x = new PotSchools();
        x.knew(0, 0, 1);
        x.knew(0, 0, 2);
        Due.is("began()", x.began(), 0);
        Due.is("forget()", x.forget(), 2);
        Due.is("forget() again", x.forget(), 0);
        Due.is("began(), forgotten", x.began(), 4095);
        Due.is("knew() anew", x.knew(0, 0, 0), 1);
    }

    private static void began() {
        PotSchools x = Due.coast("ST1Gb00Gd11");
        Due.is("began(), nothing told", x.began(), 4095);
        x.knew(0, 1, 1);
        Due.is("began() from a", x.began(), 1);
        x.knew(1, 3, 3);
        Due.is("began() from a, to d", x.began(), 1);
        x.knew(1, 2, 3);
        Due.is("began() nowhere", x.began(), 0);
        x.forget();
        x.knew(1, 1, 3);
        Due.is("began() from c or d", x.began(), 12);
        x.knew(1, 0, 0);
        Due.is("began() knowing nothing", x.began(), 12);
        x.knew(1, 9, 3);
        x.knew(0, 9, 0);
        Due.is("began(), nine days", x.began(), 12);
        x.forget();
        x.knew(0, 9, 0);
        Due.is("began() but in a", x.began(), 4095 - 1);
        PotSchools tides = Due.coast("ST1T0Gb00");
        tides.knew(0, 2, 1);
        Due.is("began(), tides in turn", tides.began(), 3);
        PotSchools weed = Due.coast("SGl40");
        weed.knew(4, 9, 9);
        Due.is("began() in l", weed.began(), 1 << 11);
        weed.knew(4, 8, 8);
        Due.is("began() in l, still", weed.began(), 1 << 11);
        weed.knew(4, 8, 7);
        Due.is("began(), two told of one day", weed.began(), 0);
    }

    /** The children, their moorings and the day of the coast are not those of the one let down. */
    private static void beganAlone() {
        PotSchools x = Due.coast("ST1T0Gb00Ca3Ca1");
        x.knew(0, 1, 1);
        int began = x.began();
        Due.is("began()", began, 1);
        x.day();
        x.moor(0);
        x.set(1, 5);
        Due.is("began(), days on", x.began(), 1);
        Due.write(x, "SGa00");
        x.coast();
        Due.is("began() on another coast", x.began(), 1);
        x.knew(0, 2, 1);
        Due.is("began() nowhere there", x.began(), 0);
    }
}
