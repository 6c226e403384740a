import java.util.Random;

/** Any arguments, in any state, for more calls than are promised: nothing throws, and all ends. */
public final class EndureTest {
    private static final int[] ODD = {Integer.MIN_VALUE, Integer.MIN_VALUE + 1, -33, -32, -10, -9, -5, -2, -1, 0, 1, 2, 3,
        4, 5, 6, 7, 8, 9, 10, 11, 12, 13, 14, 20, 21, 30, 31, 32, 33, 48, 63, 64, 255, 256, Integer.MAX_VALUE - 1,
        Integer.MAX_VALUE};
    private static final long[] ODD_ROWS = {Long.MIN_VALUE, -1, 0, 1, 9999, 10000, 99999999L, 100000000L,
        9999999999999999L, 10000000000000000L, Long.MAX_VALUE, 1011200030004000L, 1111111111111111L};
    private static final String[] COASTS = {"S", "ST1T3T2T0Ga00Gb11Gc22Gd33Ge40Gf01Ca0Ca1Cb2Cl3Cl3", "SCa0", "SGl43",
        "ST4", "ST1T3Ga00Ca3Ca3"};

    private static final Random RANDOM = new Random(5);

    public static void main(String[] args) {
        for (int run = 0; run < 60; run++) {
            PotSchools x = run % 7 == 0 ? new PotSchools() : Due.coast(COASTS[run % COASTS.length]);
            for (int i = 0; i < 1500; i++) {
                Due.holds("an answer that is told", call(x, RANDOM.nextInt(29)) >= PotSchools.NONE);
            }
        }
        manyDays();
        Due.end();
    }

    private static int odd() {
        return ODD[RANDOM.nextInt(ODD.length)];
    }

    private static long call(PotSchools x, int which) {
        return which < 15 ? early(x, which) : late(x, which);
    }

    private static long early(PotSchools x, int which) {
        return switch (which) {
            case 0 -> x.write(odd());
            case 1 -> RANDOM.nextInt(9) == 0 ? x.wipe() : 0;
            case 2 -> x.fault();
            case 3 -> RANDOM.nextInt(9) == 0 ? x.coast() : 0;
            case 4 -> x.ground(odd(), odd());
            case 5 -> x.child(odd(), odd());
            case 6 -> x.knows(odd(), odd());
            case 7 -> x.day();
            case 8 -> x.set(odd(), odd());
            case 9 -> x.moor(odd());
            case 10 -> x.put(odd());
            case 11 -> x.undo();
            case 12 -> x.ahead(odd(), odd(), odd());
            case 13 -> x.later(odd(), odd(), odd());
            default -> x.enough(odd(), odd(), odd());
        };
    }

    private static long late(PotSchools x, int which) {
        return switch (which) {
            case 15 -> x.best(odd(), odd(), odd());
            case 16 -> RANDOM.nextInt(9) == 0 ? x.fit() : 0;
            case 17 -> x.judge(odd(), ODD_ROWS[RANDOM.nextInt(ODD_ROWS.length)]);
            case 18 -> x.knew(odd(), odd(), odd());
            case 19 -> x.forget();
            case 20 -> x.began();
            case 21 -> Math.max(-9, x.share(odd(), odd(), RANDOM.nextBoolean()));
            case 22 -> x.rests(odd(), odd(), odd());
            case 23 -> x.fails(odd(), odd(), odd(), odd(), odd(), RANDOM.nextBoolean());
            case 24 -> Math.max(0, x.seed(ODD_ROWS[RANDOM.nextInt(ODD_ROWS.length)]));
            case 25 -> x.generations(odd());
            case 26 -> x.keep(odd());
            case 27 -> x.again(odd());
            default -> x.count(odd());
        };
    }

    private static void manyDays() {
        PotSchools x = Due.coast("ST1T3T2Ga00Ca0Cb2");
        for (int i = 0; i < 500; i++) {
            x.day();
        }
        Due.is("THE DAY", x.count(4), 500);
        Due.is("its way", x.count(9), new int[] {1, 3, 2}[500 % 3]);
        Due.is("ACTS", x.count(10), 14);
    }
}
