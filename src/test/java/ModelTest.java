import java.util.Random;

/** Runs of calls by chance (always the same ones): the class and the model answer alike. */
public final class ModelTest {
    private static final int RUNS = 400, CALLS = 512;

    private final Random random;
    private final PotSchools schools = new PotSchools();
    private final Model model = new Model();
    private String call = "";

    private ModelTest(long seed) {
        random = new Random(seed);
    }

    public static void main(String[] args) {
        int runs = args.length > 0 ? Integer.parseInt(args[0]) : RUNS;
        for (int run = 0; run < runs; run++) {
            new ModelTest(run).run(run);
        }
        Due.end();
    }

    private void run(int run) {
        int calls = 0;
        while (calls < CALLS) {
            calls += random.nextInt(40) == 0 || calls == 0 ? tell(run) : ask(run);
        }
    }

    /** Mostly a number from least to most, now and then one that lies outside. */
    private int from(int least, int most) {
        int chance = random.nextInt(60);
        if (chance == 0) {
            return least - 1;
        }
        if (chance == 1) {
            return most + 1;
        }
        return least + random.nextInt(most - least + 1);
    }

    private String randomCoast() {
        StringBuilder text = new StringBuilder("S");
        int parts = random.nextInt(16);
        int tides = 0;
        int children = 0;
        int grounds = 0;
        int used = 0;
        int subjects = 1 + random.nextInt(5);
        int cells = 3 + random.nextInt(10);
        for (int i = 0; i < parts; i++) {
            int kind = random.nextInt(3);
            if (kind == 0 && tides < 4) {
                text.append('T').append(random.nextInt(5));
                tides++;
            } else if (kind == 1 && grounds < 6) {
                int cell = random.nextInt(Math.min(12, cells));
                if ((used >> cell & 1) == 0) {
                    used |= 1 << cell;
                    text.append('G').append((char) ('a' + cell));
                    text.append(random.nextInt(subjects)).append(random.nextInt(4));
                    grounds++;
                }
            } else if (kind == 2 && children < 5) {
                text.append('C').append((char) ('a' + random.nextInt(Math.min(12, cells)))).append(random.nextInt(4));
                children++;
            }
        }
        if (random.nextInt(6) == 0) {
            int place = random.nextInt(text.length());
            text.setCharAt(place, "STGCabclm0345".charAt(random.nextInt(13)));
        }
        if (random.nextInt(6) == 0) {
            text.append("TGC0a".charAt(random.nextInt(5)));
        }
        return text.toString();
    }

    private int tell(int run) {
        String text = randomCoast();
        Due.is("run " + run + ": wipe()", schools.wipe(), model.wipe());
        for (int i = 0; i < text.length(); i++) {
            Due.is("run " + run + ": write", schools.write(text.charAt(i)), model.write(text.charAt(i)));
            if (random.nextInt(8) == 0) {
                Due.is("run " + run + ": fault() in " + text, schools.fault(), model.fault());
            }
        }
        Due.is("run " + run + ": fault() of " + text, schools.fault(), model.fault());
        Due.is("run " + run + ": coast() of " + text, schools.coast(), model.coast());
        return text.length() + 3;
    }

    private int ask(int run) {
        int which = random.nextInt(32);
        long[] both = which < 14 ? first(which) : which < 24 ? second(which) : third(which);
        Due.is("run " + run + ": " + call, both[0], both[1]);
        return 1;
    }

    private long[] answers(String name, long got, long want) {
        call = name;
        return new long[] {got, want};
    }

    private int aChild() {
        return from(0, Math.max(0, model.count(3) - 1));
    }

    private int aGround() {
        return from(0, Math.max(0, model.count(2) - 1));
    }

    private long[] first(int which) {
        int child = aChild();
        int a = from(0, 4);
        int cell = from(0, 11);
        switch (which) {
            case 0:
            case 1:
            case 2:
            case 3:
            case 4:
                return answers("day()", schools.day(), model.day());
            case 5:
            case 6:
                return answers("set(" + child + ", " + cell + ")", schools.set(child, cell), model.set(child, cell));
            case 7:
                return answers("moor(" + child + ")", schools.moor(child), model.moor(child));
            case 8:
                return answers("put(" + child + ")", schools.put(child), model.put(child));
            case 9:
                return answers("undo()", schools.undo(), model.undo());
            case 10:
                int ground = aGround();
                return answers("ground(" + ground + ", " + a + ")", schools.ground(ground, a), model.ground(ground, a));
            case 11:
                return answers("child(" + child + ", " + a + ")", schools.child(child, a), model.child(child, a));
            case 12:
                return answers("knows(" + child + ", " + a + ")", schools.knows(child, a), model.knows(child, a));
            default:
                return answers("fault()", schools.fault(), model.fault());
        }
    }

    private long[] second(int which) {
        int child = aChild();
        int subject = from(0, 4);
        int what = from(0, 1);
        int days = from(0, 20);
        int v = from(1, 9);
        switch (which) {
            case 14:
                return answers("ahead(" + child + ", " + subject + ", " + days + ")",
                    schools.ahead(child, subject, days), model.ahead(child, subject, days));
            case 15:
                return answers("later(" + child + ", " + days + ", " + what + ")",
                    schools.later(child, days, what), model.later(child, days, what));
            case 16:
                return answers("enough(" + child + ", " + subject + ", " + v + ")",
                    schools.enough(child, subject, v), model.enough(child, subject, v));
            case 17:
                int n = from(1, 12);
                return answers("best(" + child + ", " + n + ", " + what + ")",
                    schools.best(child, n, what), model.best(child, n, what));
            case 18:
                return random.nextInt(8) != 0 ? answers("fault()", schools.fault(), model.fault())
                    : answers("fit()", schools.fit(), model.fit());
            case 19:
            case 20:
                int doings = from(1, 4);
                long row = doings();
                return answers("judge(" + doings + ", " + row + ")",
                    schools.judge(doings, row), model.judge(doings, row));
            case 21:
                int behind = from(0, 9);
                int amount = random.nextInt(2) == 0 ? 0 : from(0, 9);
                return answers("knew(" + subject + ", " + behind + ", " + amount + ")",
                    schools.knew(subject, behind, amount), model.knew(subject, behind, amount));
            case 22:
                return random.nextInt(3) != 0 ? answers("began()", schools.began(), model.began())
                    : answers("forget()", schools.forget(), model.forget());
            default:
                return answers("began()", schools.began(), model.began());
        }
    }

    /** A row of doings most of which can be. */
    private long doings() {
        long row = 0;
        for (int i = 0; i < 4; i++) {
            int child = random.nextInt(Math.max(1, model.count(3)));
            int doing = switch (random.nextInt(12)) {
                case 0, 1, 2, 3 -> 0;
                case 4, 5 -> 1000 + 100 * child + random.nextInt(12);
                case 6, 7 -> 2000 + child;
                case 8, 9 -> 3000 + child;
                case 10 -> 4000 + 100 * child + 10 * random.nextInt(5) + random.nextInt(3);
                default -> random.nextInt(10000);
            };
            row = row * 10000 + doing;
            if (random.nextInt(8) == 0) {
                return row;
            }
        }
        return random.nextInt(40) == 0 ? -row : row;
    }

    private long[] third(int which) {
        int child = aChild();
        boolean upper = random.nextBoolean();
        switch (which) {
            case 24:
                int ground = aGround();
                return answers("share(" + ground + ", " + child + ", " + upper + ")",
                    schools.share(ground, child, upper), model.share(ground, child, upper));
            case 25:
                int other = aChild();
                int what = from(0, 1);
                return answers("rests(" + child + ", " + other + ", " + what + ")",
                    schools.rests(child, other, what), model.rests(child, other, what));
            case 26:
                int subject = from(0, 4);
                int v = from(0, 9) % 5;
                int n = from(1, 6);
                int x = from(0, 10);
                return answers("fails(" + child + ", " + subject + ", " + v + ", " + n + ", " + x + ", " + upper + ")",
                    schools.fails(child, subject, v, n, x, upper), model.fails(child, subject, v, n, x, upper));
            case 27:
                long seed = random.nextLong();
                return answers("seed(" + seed + ")", schools.seed(seed), model.seed(seed));
            case 28:
                int m = from(1, 30);
                return answers("generations(" + m + ")", schools.generations(m), model.generations(m));
            case 29:
                int kept = from(0, 1);
                return answers("keep(" + kept + ")", schools.keep(kept), model.keep(kept));
            case 30:
                int slot = from(0, 1);
                return answers("again(" + slot + ")", schools.again(slot), model.again(slot));
            default:
                int of = from(0, 11);
                return answers("count(" + of + ")", schools.count(of), model.count(of));
        }
    }
}
