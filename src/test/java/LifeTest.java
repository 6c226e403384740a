import java.lang.reflect.Method;

/** An object answers as it should up to its 512th call, whichever call that is; and the run that README.md shows. */
public final class LifeTest {
    private static final int LIFE = 512;
    private static final String COAST = "ST1T3T2Gb01Gc02Gf10Gg20Gk43Ga30Ca0Cb1Cg2Cf3";

    /** What is called over and over, so that each row of the object is used many times round. */
    private static final Object[][] ROUND = {
        {"day"}, {"set", 0, 1}, {"moor", 1}, {"day"}, {"put", 1}, {"set", 0, 0}, {"keep", 0}, {"undo"}, {"day"},
        {"knew", 0, 2, 3}, {"began"}, {"day"}, {"generations", 30}, {"best", 3, 12, 0}, {"again", 0}, {"day"},
        {"share", 0, 1, true}, {"rests", 2, 3, 1}, {"moor", 0}, {"keep", 1}, {"day"}, {"judge", 4, 1005000000004001L},
        {"fails", 2, 2, 1, 6, 3, false}, {"moor", 0}, {"set", 3, 6}, {"day"}, {"fault"}, {"put", 9}, {"day"}};

    private static final Object[][] LAST = {
        {"write", 'T' + 0}, {"wipe"}, {"fault"}, {"coast"}, {"ground", 0, 3}, {"child", 1, 3}, {"knows", 0, 0}, {"day"},
        {"set", 0, 7}, {"moor", 2}, {"put", 0}, {"undo"}, {"ahead", 1, 0, 20}, {"later", 3, 20, 0}, {"later", 3, 20, 1},
        {"enough", 0, 0, 9}, {"best", 2, 12, 0}, {"best", 2, 12, 1}, {"fit"}, {"judge", 4, 2000000000004001L},
        {"knew", 4, 9, 9}, {"forget"}, {"began"}, {"share", 1, 0, true}, {"share", 1, 0, false}, {"rests", 0, 3, 0},
        {"rests", 0, 3, 1}, {"fails", 0, 0, 4, 6, 7, true}, {"fails", 0, 0, 4, 6, 7, false}, {"seed", 5L},
        {"generations", 30}, {"keep", 1}, {"again", 0}, {"again", 1}, {"count", 4}, {"count", 8}, {"count", 9},
        {"count", 10}, {"count", 11}};

    private final PotSchools schools = new PotSchools();
    private final Model model = new Model();
    private int calls;

    public static void main(String[] args) throws ReflectiveOperationException {
        for (Object[] last : LAST) {
            new LifeTest().live(last);
        }
        readme();
        Due.end();
    }

    private void live(Object[] last) throws ReflectiveOperationException {
        for (char letter : COAST.toCharArray()) {
            call(new Object[] {"write", (int) letter});
        }
        call(new Object[] {"coast"});
        for (int i = 0; calls < LIFE - 1; i++) {
            call(ROUND[i % ROUND.length]);
        }
        call(last);
        Due.is("calls", calls, LIFE);
    }

    private void call(Object[] named) throws ReflectiveOperationException {
        calls++;
        Object[] values = new Object[named.length - 1];
        System.arraycopy(named, 1, values, 0, values.length);
        Class<?>[] types = new Class<?>[values.length];
        for (int i = 0; i < types.length; i++) {
            types[i] = values[i] instanceof Integer ? int.class : values[i] instanceof Long ? long.class : boolean.class;
        }
        String name = (String) named[0];
        Method one = PotSchools.class.getDeclaredMethod(name, types);
        Method other = Model.class.getDeclaredMethod(name, types);
        Number got = (Number) one.invoke(schools, values);
        Number want = (Number) other.invoke(model, values);
        Due.is("call " + calls + ", " + name + java.util.Arrays.toString(values), got.longValue(), want.longValue());
    }

    private static void readme() {
        PotSchools schools = new PotSchools();
        for (char letter : "ST1Gb00Ca0".toCharArray()) {
            schools.write(letter);
        }
        Due.is("coast()", schools.coast(), 111);
        Due.is("day()", schools.day(), 1);
        Due.is("enough(0, 0, 2)", schools.enough(0, 0, 2), PotSchools.NONE);
        Due.is("moor(0)", schools.moor(0), 1);
        Due.is("enough(0, 0, 9)", schools.enough(0, 0, 9), 8);
        Due.is("undo()", schools.undo(), 1);
        Due.is("best(0, 3, 0)", schools.best(0, 3, 0), 0);
        Due.is("best(0, 3, 1)", schools.best(0, 3, 1), 2);
        Due.is("fails above", schools.fails(0, 0, 2, 1, 3, true), 3);
        Due.is("fails below", schools.fails(0, 0, 2, 1, 3, false), 10);
        Due.is("set(0, 12)", schools.set(0, 12), PotSchools.UNKNOWN);
    }
}
