import java.util.function.Supplier;
import java.util.function.ToLongFunction;

/**
 * The document's REFUSALS, one by one: "of several the first that a call names", and "what is refused
 * changes nothing"; then the questions of sections 2 and 3, by which "nothing is changed".
 */
public final class RefusalsTest {
    private static final int NONE = PotSchools.NONE, UNKNOWN = PotSchools.UNKNOWN, OUTSIDE = PotSchools.OUTSIDE;
    private static final int STATE = PotSchools.STATE, FULL = PotSchools.FULL;
    private static final int LEAST = Integer.MIN_VALUE, MOST = Integer.MAX_VALUE;
    /** Numbers of which there is no CHILD and no GROUND on the coast of three and three. */
    private static final int[] NO_SUCH = {-1, 3, 4, 5, 6, 31, 32, 33, LEAST, MOST};

    public static void main(String[] args) {
        letters();
        coast();
        groundAndChild();
        knows();
        set();
        moorAndPut();
        undo();
        ahead();
        later();
        enough();
        best();
        judge();
        knew();
        share();
        rests();
        fails();
        generations();
        slots();
        count();
        nobody();
        questions();
        Due.end();
    }

    /** Three GROUNDS, three CHILDREN, acts in the row, SLOT 0 kept, three KNEW, a SEED; CHILD 2 knows nothing. */
    private static PotSchools busy() {
        PotSchools x = Due.coast("ST1T0Gb00Ga11Gc22Ca0Cb1Cl3");
        x.day();
        x.moor(1);
        x.keep(0);
        x.day();
        x.set(0, 2);
        x.knew(0, 1, 1);
        x.knew(0, 2, 1);
        x.knew(1, 2, 3);
        x.seed(-12345);
        return x;
    }

    /** As full as may be: 48 letters (of no COAST), 14 ACTS, 6 KNEW, both SLOTS. */
    private static PotSchools full() {
        PotSchools x = busy();
        x.keep(1);
        for (int i = 0; i < 20; i++) {
            x.moor(i % 3);
        }
        for (int i = 0; i < 3; i++) {
            x.knew(4, i, 0);
        }
        for (int i = x.count(0); i < 48; i++) {
            x.write('T');
        }
        Due.is("full: letters", x.count(0), 48);
        Due.is("full: ACTS", x.count(10), 14);
        Due.is("full: KNEW", x.count(11), 6);
        return x;
    }

    private static void leaves(Supplier<PotSchools> made, String call, long due, ToLongFunction<PotSchools> asked) {
        PotSchools x = made.get();
        Due.is(call, asked.applyAsLong(x), due);
        Due.same(call + " changes nothing", Due.spent(x), Due.spent(made.get()));
    }

    private static void refused(long due, String call, ToLongFunction<PotSchools> asked) {
        leaves(RefusalsTest::busy, call, due, asked);
    }

    private static void refusedFull(long due, String call, ToLongFunction<PotSchools> asked) {
        leaves(RefusalsTest::full, call + ", full", due, asked);
    }

    // write: OUTSIDE; FULL: there are 48.
    private static void letters() {
        refused(OUTSIDE, "write(-1)", x -> x.write(-1));
        refused(OUTSIDE, "write(256)", x -> x.write(256));
        refused(OUTSIDE, "write(least)", x -> x.write(LEAST));
        refused(OUTSIDE, "write(most)", x -> x.write(MOST));
        refusedFull(FULL, "write(0)", x -> x.write(0));
        refusedFull(FULL, "write('0')", x -> x.write('0'));
        refusedFull(FULL, "write(255)", x -> x.write(255));
        refusedFull(OUTSIDE, "write(256)", x -> x.write(256));
        refusedFull(OUTSIDE, "write(-1)", x -> x.write(-1));
    }

    // coast: STATE: a FAULT.
    private static void coast() {
        refusedFull(STATE, "coast()", x -> x.coast());
        PotSchools x = busy();
        x.write('C');
        PotSchools same = busy();
        same.write('C');
        Due.is("coast() of a text that is not at its end", x.coast(), STATE);
        Due.same("coast() with a FAULT changes nothing", Due.spent(x), Due.spent(same));
        PotSchools wiped = busy();
        wiped.wipe();
        PotSchools sameWiped = busy();
        sameWiped.wipe();
        Due.is("coast() of no text", wiped.coast(), STATE);
        Due.same("coast() of no text changes nothing", Due.spent(wiped), Due.spent(sameWiped));
    }

    // ground, child: UNKNOWN; OUTSIDE.
    private static void groundAndChild() {
        for (int no : NO_SUCH) {
            refused(UNKNOWN, "ground(" + no + ", 0)", x -> x.ground(no, 0));
            refused(UNKNOWN, "ground(" + no + ", 4)", x -> x.ground(no, 4));
            refused(UNKNOWN, "child(" + no + ", 0)", x -> x.child(no, 0));
            refused(UNKNOWN, "child(" + no + ", 5)", x -> x.child(no, 5));
        }
        refused(OUTSIDE, "ground(2, 4)", x -> x.ground(2, 4));
        refused(OUTSIDE, "ground(2, -1)", x -> x.ground(2, -1));
        refused(OUTSIDE, "ground(0, most)", x -> x.ground(0, MOST));
        refused(OUTSIDE, "child(2, 5)", x -> x.child(2, 5));
        refused(OUTSIDE, "child(2, -1)", x -> x.child(2, -1));
        refused(OUTSIDE, "child(0, least)", x -> x.child(0, LEAST));
    }

    // knows: UNKNOWN: both.
    private static void knows() {
        for (int no : NO_SUCH) {
            refused(UNKNOWN, "knows(" + no + ", 0)", x -> x.knows(no, 0));
        }
        refused(UNKNOWN, "knows(0, 5)", x -> x.knows(0, 5));
        refused(UNKNOWN, "knows(0, -1)", x -> x.knows(0, -1));
        refused(UNKNOWN, "knows(1, -1)", x -> x.knows(1, -1));
        refused(UNKNOWN, "knows(3, 5)", x -> x.knows(3, 5));
    }

    // set: UNKNOWN: both; STATE: it is there.
    private static void set() {
        for (int no : NO_SUCH) {
            refused(UNKNOWN, "set(" + no + ", 0)", x -> x.set(no, 0));
            refused(UNKNOWN, "set(" + no + ", 12)", x -> x.set(no, 12));
        }
        refused(UNKNOWN, "set(0, 12)", x -> x.set(0, 12));
        refused(UNKNOWN, "set(0, -1)", x -> x.set(0, -1));
        refused(UNKNOWN, "set(0, most)", x -> x.set(0, MOST));
        refused(STATE, "set(0, 2), it is there", x -> x.set(0, 2));
        refused(STATE, "set(1, there)", x -> x.set(1, x.child(1, 0)));
        refusedFull(STATE, "set(2, there)", x -> x.set(2, x.child(2, 0)));
    }

    // moor: UNKNOWN. put: UNKNOWN; STATE: its WEIGHT is 0.
    private static void moorAndPut() {
        for (int no : NO_SUCH) {
            refused(UNKNOWN, "moor(" + no + ")", x -> x.moor(no));
            refused(UNKNOWN, "put(" + no + ")", x -> x.put(no));
        }
        refused(STATE, "put(2), knowing nothing", x -> x.put(2));
        refusedFull(STATE, "put(2), knowing nothing", x -> x.put(2));
        refusedFull(UNKNOWN, "moor(3)", x -> x.moor(3));
    }

    // undo: STATE: there is none.
    private static void undo() {
        Supplier<PotSchools> undone = () -> {
            PotSchools x = busy();
            for (int left = 3; left >= 0; left--) {
                Due.is("undo()", x.undo(), left);
            }
            return x;
        };
        leaves(undone, "undo() of an empty row", STATE, x -> x.undo());
        leaves(PotSchools::new, "undo() of a new object", STATE, x -> x.undo());
    }

    // ahead: UNKNOWN: both; OUTSIDE: n.
    private static void ahead() {
        for (int no : NO_SUCH) {
            refused(UNKNOWN, "ahead(" + no + ", 0, 21)", x -> x.ahead(no, 0, 21));
        }
        refused(UNKNOWN, "ahead(0, 5, 0)", x -> x.ahead(0, 5, 0));
        refused(UNKNOWN, "ahead(0, -1, -1)", x -> x.ahead(0, -1, -1));
        refused(OUTSIDE, "ahead(0, 4, 21)", x -> x.ahead(0, 4, 21));
        refused(OUTSIDE, "ahead(2, 0, -1)", x -> x.ahead(2, 0, -1));
        refused(OUTSIDE, "ahead(2, 0, most)", x -> x.ahead(2, 0, MOST));
    }

    // later: UNKNOWN; OUTSIDE: n, what.
    private static void later() {
        for (int no : NO_SUCH) {
            refused(UNKNOWN, "later(" + no + ", 21, 2)", x -> x.later(no, 21, 2));
        }
        refused(OUTSIDE, "later(0, 21, 0)", x -> x.later(0, 21, 0));
        refused(OUTSIDE, "later(0, -1, 1)", x -> x.later(0, -1, 1));
        refused(OUTSIDE, "later(0, 20, 2)", x -> x.later(0, 20, 2));
        refused(OUTSIDE, "later(2, 0, -1)", x -> x.later(2, 0, -1));
    }

    // enough: UNKNOWN: both; OUTSIDE: v.
    private static void enough() {
        for (int no : NO_SUCH) {
            refused(UNKNOWN, "enough(" + no + ", 0, 0)", x -> x.enough(no, 0, 0));
        }
        refused(UNKNOWN, "enough(0, 5, 1)", x -> x.enough(0, 5, 1));
        refused(UNKNOWN, "enough(0, -1, 10)", x -> x.enough(0, -1, 10));
        refused(OUTSIDE, "enough(0, 0, 0)", x -> x.enough(0, 0, 0));
        refused(OUTSIDE, "enough(0, 4, 10)", x -> x.enough(0, 4, 10));
        refused(OUTSIDE, "enough(0, 4, -1)", x -> x.enough(0, 4, -1));
    }

    // best: UNKNOWN; OUTSIDE: n, what.
    private static void best() {
        for (int no : NO_SUCH) {
            refused(UNKNOWN, "best(" + no + ", 13, 2)", x -> x.best(no, 13, 2));
        }
        refused(OUTSIDE, "best(0, 0, 0)", x -> x.best(0, 0, 0));
        refused(OUTSIDE, "best(0, 13, 1)", x -> x.best(0, 13, 1));
        refused(OUTSIDE, "best(0, 12, 2)", x -> x.best(0, 12, 2));
        refused(OUTSIDE, "best(2, 1, -1)", x -> x.best(2, 1, -1));
    }

    // judge: OUTSIDE: n, row (0 or more, 4 n figures at most).
    private static void judge() {
        refused(OUTSIDE, "judge(0, 0)", x -> x.judge(0, 0));
        refused(OUTSIDE, "judge(5, 0)", x -> x.judge(5, 0));
        refused(OUTSIDE, "judge(least, 0)", x -> x.judge(LEAST, 0));
        refused(OUTSIDE, "judge(1, -1)", x -> x.judge(1, -1));
        refused(OUTSIDE, "judge(4, least)", x -> x.judge(4, Long.MIN_VALUE));
        refused(OUTSIDE, "judge(1, 5 figures)", x -> x.judge(1, 10000L));
        refused(OUTSIDE, "judge(2, 9 figures)", x -> x.judge(2, 100000000L));
        refused(OUTSIDE, "judge(3, 13 figures)", x -> x.judge(3, 1000000000000L));
        refused(OUTSIDE, "judge(4, 17 figures)", x -> x.judge(4, 10000000000000000L));
        refused(OUTSIDE, "judge(4, most)", x -> x.judge(4, Long.MAX_VALUE));
    }

    // knew: UNKNOWN: subject; OUTSIDE: n, v; FULL: 6.
    private static void knew() {
        refused(UNKNOWN, "knew(5, 0, 0)", x -> x.knew(5, 0, 0));
        refused(UNKNOWN, "knew(-1, 10, 10)", x -> x.knew(-1, 10, 10));
        refused(OUTSIDE, "knew(0, 10, 0)", x -> x.knew(0, 10, 0));
        refused(OUTSIDE, "knew(0, -1, 0)", x -> x.knew(0, -1, 0));
        refused(OUTSIDE, "knew(4, 9, 10)", x -> x.knew(4, 9, 10));
        refused(OUTSIDE, "knew(4, 9, -1)", x -> x.knew(4, 9, -1));
        refusedFull(FULL, "knew(4, 9, 9)", x -> x.knew(4, 9, 9));
        refusedFull(FULL, "knew(0, 1, 1), told already", x -> x.knew(0, 1, 1));
        refusedFull(OUTSIDE, "knew(0, 10, 0)", x -> x.knew(0, 10, 0));
        refusedFull(OUTSIDE, "knew(0, 0, 10)", x -> x.knew(0, 0, 10));
        refusedFull(UNKNOWN, "knew(5, 0, 0)", x -> x.knew(5, 0, 0));
    }

    // share: UNKNOWN: both. "Refusals of them are told likewise": above and below.
    private static void share() {
        for (int no : NO_SUCH) {
            refused(UNKNOWN, "share(" + no + ", 0, true)", x -> x.share(no, 0, true));
            refused(UNKNOWN, "share(" + no + ", 0, false)", x -> x.share(no, 0, false));
            refused(UNKNOWN, "share(0, " + no + ", true)", x -> x.share(0, no, true));
            refused(UNKNOWN, "share(0, " + no + ", false)", x -> x.share(0, no, false));
        }
    }

    // rests: UNKNOWN: both; OUTSIDE: both are one, what.
    private static void rests() {
        for (int no : NO_SUCH) {
            refused(UNKNOWN, "rests(" + no + ", 0, 2)", x -> x.rests(no, 0, 2));
            refused(UNKNOWN, "rests(0, " + no + ", 2)", x -> x.rests(0, no, 2));
            refused(UNKNOWN, "rests(both " + no + ")", x -> x.rests(no, no, 0));
        }
        refused(OUTSIDE, "rests(2, 2, 0)", x -> x.rests(2, 2, 0));
        refused(OUTSIDE, "rests(0, 0, 1)", x -> x.rests(0, 0, 1));
        refused(OUTSIDE, "rests(0, 1, 2)", x -> x.rests(0, 1, 2));
        refused(OUTSIDE, "rests(0, 1, -1)", x -> x.rests(0, 1, -1));
    }

    // fails: UNKNOWN: both; OUTSIDE: v, n, x.
    private static void fails() {
        for (int no : NO_SUCH) {
            refused(UNKNOWN, "fails(" + no + "), above", x -> x.fails(no, 0, 10, 7, 11, true));
            refused(UNKNOWN, "fails(" + no + "), below", x -> x.fails(no, 0, 0, 1, 0, false));
        }
        refused(UNKNOWN, "fails of SUBJECT 5", x -> x.fails(0, 5, 10, 0, -1, true));
        refused(UNKNOWN, "fails of SUBJECT -1", x -> x.fails(0, -1, 0, 1, 0, false));
        int[][] outside = {{10, 1, 0}, {-1, 6, 10}, {0, 0, 0}, {9, 7, 10}, {0, 1, 11}, {9, 6, -1}};
        for (int[] a : outside) {
            String call = "fails(0, 0, " + a[0] + ", " + a[1] + ", " + a[2] + ", ";
            refused(OUTSIDE, call + "true)", x -> x.fails(0, 0, a[0], a[1], a[2], true));
            refused(OUTSIDE, call + "false)", x -> x.fails(0, 0, a[0], a[1], a[2], false));
        }
    }

    // generations: OUTSIDE: m. THE SEED stays too.
    private static void generations() {
        int[] outside = {0, 31, -1, LEAST, MOST};
        for (int m : outside) {
            refused(OUTSIDE, "generations(" + m + ")", x -> x.generations(m));
        }
    }

    // keep: UNKNOWN. again: UNKNOWN; STATE: none were kept.
    private static void slots() {
        int[] noSlots = {-1, 2, 31, 32, 33, LEAST, MOST};
        for (int no : noSlots) {
            refused(UNKNOWN, "keep(" + no + ")", x -> x.keep(no));
            refused(UNKNOWN, "again(" + no + ")", x -> x.again(no));
        }
        refused(STATE, "again(1), none kept", x -> x.again(1));
        leaves(PotSchools::new, "again(0) of a new object", STATE, x -> x.again(0));
    }

    // count: OUTSIDE.
    private static void count() {
        int[] outside = {-1, 12, LEAST, MOST};
        for (int what : outside) {
            refused(OUTSIDE, "count(" + what + ")", x -> x.count(what));
        }
    }

    // "At first there is nothing": CHILD 0 and GROUND 0 are UNKNOWN to every call.
    private static void nobody() {
        PotSchools x = new PotSchools();
        Due.is("nobody: ground", x.ground(0, 0), UNKNOWN);
        Due.is("nobody: child", x.child(0, 0), UNKNOWN);
        Due.is("nobody: knows", x.knows(0, 0), UNKNOWN);
        Due.is("nobody: set", x.set(0, 0), UNKNOWN);
        Due.is("nobody: moor", x.moor(0), UNKNOWN);
        Due.is("nobody: put", x.put(0), UNKNOWN);
        Due.is("nobody: ahead", x.ahead(0, 0, 0), UNKNOWN);
        Due.is("nobody: later", x.later(0, 0, 0), UNKNOWN);
        Due.is("nobody: enough", x.enough(0, 0, 1), UNKNOWN);
        Due.is("nobody: best", x.best(0, 1, 0), UNKNOWN);
        Due.is("nobody: share", x.share(0, 0, true), UNKNOWN);
        Due.is("nobody: share, below", x.share(0, 0, false), UNKNOWN);
        Due.is("nobody: rests", x.rests(0, 1, 0), UNKNOWN);
        Due.is("nobody: rests, both one", x.rests(0, 0, 0), UNKNOWN);
        Due.is("nobody: fails", x.fails(0, 0, 0, 1, 0, true), UNKNOWN);
        Due.same("nobody: nothing changed", Due.spent(x), Due.spent(new PotSchools()));
    }

    private static void asked(String call, ToLongFunction<PotSchools> question) {
        PotSchools x = busy();
        Due.holds(call + " is answered", question.applyAsLong(x) != OUTSIDE);
        Due.same(call + " changes nothing", Due.spent(x), Due.spent(busy()));
    }

    // "In what follows nothing is changed" (section 2); "nothing changes but THE SEED" (section 3).
    private static void questions() {
        asked("fault()", x -> x.fault());
        asked("ground(0, 3)", x -> x.ground(0, 3));
        asked("child(0, 4)", x -> x.child(0, 4));
        asked("knows(0, 0)", x -> x.knows(0, 0));
        asked("ahead(0, 0, 20)", x -> x.ahead(0, 0, 20));
        asked("later(0, 20, 1)", x -> x.later(0, 20, 1));
        asked("enough(0, 3, 9)", x -> x.enough(0, 3, 9));
        asked("best(0, 12, 0)", x -> x.best(0, 12, 0));
        asked("fit()", x -> x.fit());
        asked("judge of four doings", x -> x.judge(4, 1011200000003000L));
        asked("judge of one that can not be", x -> x.judge(2, 10115000L) == 1 ? NONE : OUTSIDE);
        asked("began()", x -> x.began());
        asked("share(0, 0, true)", x -> x.share(0, 0, true));
        asked("rests(0, 2, 1)", x -> x.rests(0, 2, 1));
        asked("fails(0, 0, 1, 6, 5, true)", x -> x.fails(0, 0, 1, 6, 5, true));
        asked("generations(30), but for THE SEED", x -> {
            long was = x.seed(7);
            long answer = x.generations(30);
            x.seed(was);
            return answer;
        });
        asked("count(11)", x -> x.count(11));
    }
}
