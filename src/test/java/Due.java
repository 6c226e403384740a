/** Answers that are due: prints each that is another one, and ends a test. */
final class Due {
    private static int asked = 0;
    private static int wrong = 0;

    private Due() {
    }

    static void is(String call, long got, long want) {
        asked++;
        if (got != want) {
            wrong++;
            System.out.println(call + " answered " + got + ", due is " + want);
        }
    }

    static void holds(String what, boolean so) {
        is(what, so ? 1 : 0, 1);
    }

    /** A fraction, both its terms. */
    static void fraction(String call, long above, long below, long wantAbove, long wantBelow) {
        is(call + " above", above, wantAbove);
        is(call + " below", below, wantBelow);
    }

    static PotSchools written(String text) {
        PotSchools schools = new PotSchools();
        write(schools, text);
        return schools;
    }

    static void write(PotSchools schools, String text) {
        schools.wipe();
        for (int i = 0; i < text.length(); i++) {
            schools.write(text.charAt(i));
        }
    }

    /** A new object whose coast is the text. */
    static PotSchools coast(String text) {
        PotSchools schools = written(text);
        holds("coast() of " + text, schools.coast() >= 0);
        return schools;
    }

    static void days(PotSchools schools, int n) {
        for (int i = 0; i < n; i++) {
            schools.day();
        }
    }

    /** All that can be seen of an object without changing it, as one text. */
    static String seen(PotSchools schools) {
        StringBuilder all = new StringBuilder();
        for (int what = 0; what < 12; what++) {
            all.append(schools.count(what)).append(' ');
        }
        for (int child = 0; child < 5; child++) {
            for (int what = 0; what < 5; what++) {
                all.append(schools.child(child, what)).append(' ');
                all.append(schools.knows(child, what)).append(' ');
            }
        }
        for (int ground = 0; ground < 6; ground++) {
            for (int what = 0; what < 4; what++) {
                all.append(schools.ground(ground, what)).append(' ');
            }
        }
        return all.append(schools.fault()).append(' ').append(schools.began()).toString();
    }

    /** What can be seen of a step back: the day, where pots are, which are moored, what all know. */
    private static String step(PotSchools schools) {
        StringBuilder step = new StringBuilder();
        int[] counts = {4, 6, 7, 8, 10};
        for (int what : counts) {
            step.append(schools.count(what)).append(' ');
        }
        for (int child = 0; child < schools.count(3); child++) {
            step.append(schools.child(child, 0)).append('/').append(schools.child(child, 3)).append(' ');
        }
        return step.toString();
    }

    /**
     * All that an object holds, its row of acts, its slots and its seed too, as one text.
     * The object is spent by it: every act is undone, every slot gone on from.
     */
    static String spent(PotSchools schools) {
        StringBuilder all = new StringBuilder(seen(schools));
        all.append(" seed ").append(schools.seed(0));
        int left = schools.undo();
        for (int i = 0; i < 20 && left >= 0; i++) {
            all.append(" undo ").append(left).append(": ").append(step(schools));
            left = schools.undo();
        }
        for (int slot = 0; slot < 2; slot++) {
            all.append(" again ").append(schools.again(slot)).append(": ").append(step(schools));
        }
        return all.append(" knew ").append(schools.forget()).toString();
    }

    static void same(String what, String got, String want) {
        asked++;
        if (!got.equals(want)) {
            wrong++;
            System.out.println(what + ": " + got + ", due is " + want);
        }
    }

    static void end() {
        System.out.println(asked + " answers, " + wrong + " not as due");
        if (wrong != 0 || asked == 0) {
            System.exit(1);
        }
    }
}
