import java.math.BigInteger;
import java.util.ArrayDeque;
import java.util.ArrayList;
import java.util.Collections;
import java.util.Deque;
import java.util.HashMap;
import java.util.List;
import java.util.Map;
import java.util.regex.Matcher;
import java.util.regex.Pattern;

/** The document's words once more, as slowly and plainly as the Java library allows. */
final class Model {
    static final int UNKNOWN = -1, OUTSIDE = -2, STATE = -3, FULL = -4, NONE = -9;
    private static final Pattern COAST = Pattern.compile("S(T[0-4]|G[a-l][0-4][0-3]|C[a-l][0-3])*", Pattern.DOTALL);
    private static final Pattern PART = Pattern.compile("T(.)|G(.)(.)(.)|C(.)(.)");

    private record Ground(int number, int cell, int subject, int kind) {
    }

    private static final class Child {
        int cell;
        final int kind;
        boolean moored;
        int[] knows = new int[5];

        Child(int cell, int kind) {
            this.cell = cell;
            this.kind = kind;
        }

        Child copy() {
            Child c = new Child(cell, kind);
            c.moored = moored;
            c.knows = knows.clone();
            return c;
        }

        int weight() {
            int sum = 0;
            for (int k : knows) {
                sum += k;
            }
            return sum;
        }
    }

    /** One state of the world: it can be copied and lived through. */
    private static final class World {
        List<Integer> tides = new ArrayList<>();
        Map<Integer, Ground> grounds = new HashMap<>();
        List<Child> children = new ArrayList<>();
        int day;

        World copy() {
            World w = new World();
            w.tides = tides;
            w.grounds = new HashMap<>(grounds);
            for (Child c : children) {
                w.children.add(c.copy());
            }
            w.day = day;
            return w;
        }

        int way() {
            return tides.isEmpty() ? 4 : tides.get(day % tides.size());
        }

        World live(boolean tide) {
            int column = way() == 0 ? -1 : way() == 1 ? 1 : 0;
            int row = way() == 2 ? -1 : way() == 3 ? 1 : 0;
            for (Child c : children) {
                int newColumn = c.cell % 4 + column;
                int newRow = c.cell / 4 + row;
                boolean there = newColumn >= 0 && newColumn < 4 && newRow >= 0 && newRow < 3;
                if (tide && !c.moored && there) {
                    c.cell = newRow * 4 + newColumn;
                }
            }
            for (Child c : children) {
                Ground g = grounds.get(c.cell);
                long company = children.stream().filter(o -> o != c && o.cell == c.cell).count();
                if (g == null || c.kind == 2 && day % 2 == 0 || c.kind == 3 && company > 0) {
                    continue;
                }
                int has = c.knows[g.subject];
                int more = switch (g.kind) {
                    case 0 -> 1;
                    case 1 -> has == 0 ? 3 : 0;
                    case 2 -> has >= 3 ? 2 : 0;
                    default -> -1;
                };
                if (c.kind == 1 && more > 0) {
                    more++;
                }
                c.knows[g.subject] = Math.min(9, Math.max(0, has + more));
            }
            day++;
            return this;
        }

        World live(int days) {
            for (int i = 0; i < days; i++) {
                live(true);
            }
            return this;
        }

        int weights() {
            return children.stream().mapToInt(Child::weight).sum();
        }
    }

    private final StringBuilder text = new StringBuilder();
    private World world = new World();
    private final Deque<World> acts = new ArrayDeque<>();
    private final Map<Integer, World> slots = new HashMap<>();
    private final List<int[]> knew = new ArrayList<>();
    private long seed;

    private boolean isChild(int c) {
        return c >= 0 && c < world.children.size();
    }

    private static boolean isSubject(int s) {
        return s >= 0 && s <= 4;
    }

    private static boolean within(int v, int least, int most) {
        return v >= least && v <= most;
    }

    private Ground groundOf(int number) {
        return world.grounds.values().stream().filter(g -> g.number == number).findFirst().orElse(null);
    }

    // ---- the coast

    int write(int letter) {
        if (!within(letter, 0, 255)) {
            return OUTSIDE;
        }
        if (text.length() == 48) {
            return FULL;
        }
        return text.append((char) letter).length();
    }

    int wipe() {
        int was = text.length();
        text.setLength(0);
        return was;
    }

    private static boolean mayGoOn(String prefix) {
        Matcher m = COAST.matcher(prefix);
        if (!m.matches() && !m.hitEnd()) {
            return false;
        }
        if (prefix.replaceAll("[^T]", "").length() > 4 || prefix.replaceAll("[^G]", "").length() > 6
                || prefix.replaceAll("[^C]", "").length() > 5) {
            return false;
        }
        List<Character> cells = new ArrayList<>();
        for (int i = 0; i + 1 < prefix.length(); i++) {
            if (prefix.charAt(i) == 'G') {
                if (cells.contains(prefix.charAt(i + 1))) {
                    return false;
                }
                cells.add(prefix.charAt(i + 1));
            }
        }
        return true;
    }

    int fault() {
        for (int i = 1; i <= text.length(); i++) {
            if (!mayGoOn(text.substring(0, i))) {
                return i - 1;
            }
        }
        return COAST.matcher(text).matches() ? NONE : text.length();
    }

    int coast() {
        if (fault() != NONE) {
            return STATE;
        }
        world = new World();
        Matcher m = PART.matcher(text.substring(1));
        while (m.find()) {
            if (m.group(1) != null) {
                world.tides.add(m.group(1).charAt(0) - '0');
            } else if (m.group(2) != null) {
                int cell = m.group(2).charAt(0) - 'a';
                int number = world.grounds.size();
                world.grounds.put(cell,
                    new Ground(number, cell, m.group(3).charAt(0) - '0', m.group(4).charAt(0) - '0'));
            } else {
                world.children.add(new Child(m.group(5).charAt(0) - 'a', m.group(6).charAt(0) - '0'));
            }
        }
        acts.clear();
        slots.clear();
        return 100 * world.tides.size() + 10 * world.grounds.size() + world.children.size();
    }

    int ground(int ground, int what) {
        Ground g = groundOf(ground);
        if (g == null) {
            return UNKNOWN;
        }
        int in = 0;
        for (int i = 0; i < world.children.size(); i++) {
            in += world.children.get(i).cell == g.cell ? 1 << i : 0;
        }
        return switch (what) {
            case 0 -> g.cell;
            case 1 -> g.subject;
            case 2 -> g.kind;
            case 3 -> in;
            default -> OUTSIDE;
        };
    }

    int child(int child, int what) {
        if (!isChild(child)) {
            return UNKNOWN;
        }
        Child c = world.children.get(child);
        return switch (what) {
            case 0 -> c.cell;
            case 1 -> c.kind;
            case 2 -> c.moored ? 1 : 0;
            case 3 -> c.weight();
            case 4 -> world.grounds.containsKey(c.cell) ? world.grounds.get(c.cell).number : NONE;
            default -> OUTSIDE;
        };
    }

    int knows(int child, int subject) {
        return isChild(child) && isSubject(subject) ? world.children.get(child).knows[subject] : UNKNOWN;
    }

    // ---- acts

    private void act() {
        acts.addLast(world.copy());
        if (acts.size() > 14) {
            acts.removeFirst();
        }
    }

    int day() {
        act();
        return world.live(1).weights();
    }

    int set(int child, int cell) {
        if (!isChild(child) || !within(cell, 0, 11)) {
            return UNKNOWN;
        }
        int was = world.children.get(child).cell;
        if (was == cell) {
            return STATE;
        }
        act();
        world.children.get(child).cell = cell;
        return was;
    }

    int moor(int child) {
        if (!isChild(child)) {
            return UNKNOWN;
        }
        act();
        Child c = world.children.get(child);
        c.moored = !c.moored;
        return c.moored ? 1 : 0;
    }

    int put(int child) {
        if (!isChild(child)) {
            return UNKNOWN;
        }
        int was = world.children.get(child).weight();
        if (was == 0) {
            return STATE;
        }
        act();
        world.children.get(child).knows = new int[5];
        return was;
    }

    int undo() {
        if (acts.isEmpty()) {
            return STATE;
        }
        world = acts.removeLast();
        return acts.size();
    }

    // ---- days to come, grounds

    int ahead(int child, int subject, int n) {
        if (!isChild(child) || !isSubject(subject)) {
            return UNKNOWN;
        }
        return within(n, 0, 20) ? world.copy().live(n).children.get(child).knows[subject] : OUTSIDE;
    }

    int later(int child, int n, int what) {
        if (!isChild(child)) {
            return UNKNOWN;
        }
        if (!within(n, 0, 20) || !within(what, 0, 1)) {
            return OUTSIDE;
        }
        Child c = world.copy().live(n).children.get(child);
        return what == 0 ? c.cell : c.weight();
    }

    int enough(int child, int subject, int v) {
        if (!isChild(child) || !isSubject(subject)) {
            return UNKNOWN;
        }
        if (!within(v, 1, 9)) {
            return OUTSIDE;
        }
        for (int n = 0; n <= 20; n++) {
            if (ahead(child, subject, n) >= v) {
                return n;
            }
        }
        return NONE;
    }

    int best(int child, int n, int what) {
        if (!isChild(child)) {
            return UNKNOWN;
        }
        if (!within(n, 1, 12) || !within(what, 0, 1)) {
            return OUTSIDE;
        }
        int[] weights = new int[12];
        for (int cell = 11; cell >= 0; cell--) {
            World w = world.copy();
            w.children.get(child).cell = cell;
            weights[cell] = w.live(n).children.get(child).weight();
        }
        int most = 0;
        for (int weight : weights) {
            most = Math.max(most, weight);
        }
        int which = 0;
        while (weights[which] != most) {
            which++;
        }
        return what == 0 ? which : most;
    }

    int fit() {
        int grounds = world.grounds.size();
        int children = world.children.size();
        if (grounds < children) {
            return NONE;
        }
        int most = -1;
        for (int way = 0; way < Math.pow(grounds, children); way++) {
            World w = world.copy();
            int rest = way;
            List<Integer> used = new ArrayList<>();
            for (Child c : w.children) {
                int ground = rest % grounds;
                rest /= grounds;
                if (!used.contains(ground)) {
                    used.add(ground);
                }
                c.cell = groundOf(ground).cell;
            }
            if (used.size() == children) {
                most = Math.max(most, w.live(4).weights());
            }
        }
        return most;
    }

    int judge(int n, long row) {
        if (!within(n, 1, 4) || row < 0 || Long.toString(row).length() > 4 * n) {
            return OUTSIDE;
        }
        String figures = "0".repeat(4 * n - Long.toString(row).length()) + row;
        Model m = new Model();
        m.world = world.copy();
        for (int i = 0; i < n; i++) {
            String doing = figures.substring(4 * i, 4 * i + 4);
            int b = doing.charAt(1) - '0';
            int c = doing.charAt(2) - '0';
            int d = doing.charAt(3) - '0';
            int answer = -1;
            if (doing.equals("0000")) {
                answer = m.day();
            } else if (doing.startsWith("1")) {
                answer = m.set(b, 10 * c + d);
            } else if (doing.startsWith("200")) {
                answer = m.moor(d);
            } else if (doing.startsWith("300")) {
                answer = m.put(d);
            } else if (doing.startsWith("4")) {
                int knows = m.knows(b, c);
                answer = knows < 0 ? knows : knows - d;
            }
            if (answer < 0) {
                return i;
            }
        }
        return NONE;
    }

    // ---- where it began

    int knew(int subject, int n, int v) {
        if (!isSubject(subject)) {
            return UNKNOWN;
        }
        if (!within(n, 0, 9) || !within(v, 0, 9)) {
            return OUTSIDE;
        }
        if (knew.size() == 6) {
            return FULL;
        }
        knew.add(new int[] {subject, n, v});
        return knew.size();
    }

    int forget() {
        int was = knew.size();
        knew.clear();
        return was;
    }

    int began() {
        int bits = 0;
        for (int cell = 0; cell < 12; cell++) {
            boolean so = true;
            for (int[] told : knew) {
                World w = world.copy();
                w.day = 0;
                w.children.clear();
                w.children.add(new Child(cell, 0));
                so &= w.live(told[1]).children.get(0).knows[told[0]] == told[2];
            }
            bits |= so ? 1 << cell : 0;
        }
        return bits;
    }

    // ---- shares, rests, chances

    private static int told(BigInteger above, BigInteger below, boolean upper) {
        BigInteger divisor = above.gcd(below);
        return (upper ? above : below).divide(divisor).intValueExact();
    }

    private int weightWith(int child, List<Integer> come) {
        World w = world.copy();
        w.grounds.values().removeIf(g -> !come.contains(g.number));
        return w.live(6).children.get(child).weight();
    }

    private static void orders(List<Integer> done, List<Integer> left, List<List<Integer>> all) {
        if (left.isEmpty()) {
            all.add(new ArrayList<>(done));
        }
        for (int i = 0; i < left.size(); i++) {
            List<Integer> rest = new ArrayList<>(left);
            done.add(rest.remove(i));
            orders(done, rest, all);
            done.remove(done.size() - 1);
        }
    }

    int share(int ground, int child, boolean upper) {
        if (groundOf(ground) == null || !isChild(child)) {
            return UNKNOWN;
        }
        List<Integer> grounds = new ArrayList<>();
        for (int i = 0; i < world.grounds.size(); i++) {
            grounds.add(i);
        }
        List<List<Integer>> all = new ArrayList<>();
        orders(new ArrayList<>(), grounds, all);
        Map<List<Integer>, Integer> seen = new HashMap<>();
        long above = 0;
        for (List<Integer> order : all) {
            List<Integer> before = new ArrayList<>(order.subList(0, order.indexOf(ground)));
            Collections.sort(before);
            List<Integer> then = new ArrayList<>(before);
            then.add(ground);
            above += seen.computeIfAbsent(then, k -> weightWith(child, k))
                - seen.computeIfAbsent(before, k -> weightWith(child, k));
        }
        return told(BigInteger.valueOf(above), BigInteger.valueOf(all.size()), upper);
    }

    private int restWeight(int one, int other, int onesGround, int othersGround, int whose) {
        World w = world.copy();
        w.children.get(one).cell = groundOf(onesGround).cell;
        w.children.get(other).cell = groundOf(othersGround).cell;
        w.children.get(one).moored = true;
        w.children.get(other).moored = true;
        return w.live(5).children.get(whose).weight();
    }

    int rests(int one, int other, int what) {
        if (!isChild(one) || !isChild(other)) {
            return UNKNOWN;
        }
        if (one == other || !within(what, 0, 1)) {
            return OUTSIDE;
        }
        List<Integer> rests = new ArrayList<>();
        for (int a = 0; a < world.grounds.size(); a++) {
            for (int b = 0; b < world.grounds.size(); b++) {
                boolean more = false;
                for (int c = 0; c < world.grounds.size(); c++) {
                    more |= restWeight(one, other, c, b, one) > restWeight(one, other, a, b, one);
                    more |= restWeight(one, other, a, c, other) > restWeight(one, other, a, b, other);
                }
                if (!more) {
                    rests.add(10 * a + b);
                }
            }
        }
        return what == 0 ? rests.size() : rests.isEmpty() ? NONE : Collections.min(rests);
    }

    private static BigInteger cases(World w, int child, int subject, int v, int n, int x) {
        if (n == 0) {
            return w.children.get(child).knows[subject] >= v ? BigInteger.ONE : BigInteger.ZERO;
        }
        BigInteger failing = cases(w.copy().live(false), child, subject, v, n - 1, x);
        BigInteger going = cases(w.copy().live(true), child, subject, v, n - 1, x);
        return failing.multiply(BigInteger.valueOf(x)).add(going.multiply(BigInteger.valueOf(10 - x)));
    }

    int fails(int child, int subject, int v, int n, int x, boolean upper) {
        if (!isChild(child) || !isSubject(subject)) {
            return UNKNOWN;
        }
        if (!within(v, 0, 9) || !within(n, 1, 6) || !within(x, 0, 10)) {
            return OUTSIDE;
        }
        return told(cases(world, child, subject, v, n, x), BigInteger.TEN.pow(n), upper);
    }

    long seed(long v) {
        long was = seed;
        seed = v;
        return was;
    }

    int generations(int m) {
        if (!within(m, 1, 30)) {
            return OUTSIDE;
        }
        World w = world.copy();
        int sum = 0;
        for (int i = 0; i < m; i++) {
            seed = BigInteger.valueOf(seed).multiply(BigInteger.valueOf(6364136223846793005L))
                .add(BigInteger.valueOf(1442695040888963407L)).longValue();
            String bits = "0".repeat(Long.numberOfLeadingZeros(seed)) + (seed == 0 ? "" : Long.toBinaryString(seed));
            int left = (int) (Long.parseLong(bits.substring(0, 31), 2) % 32);
            if (left <= 11 && !w.children.isEmpty()) {
                w.children.get(0).cell = left;
            } else if (left >= 12 && left <= 16 && left - 12 < w.children.size()) {
                w.children.get(left - 12).knows = new int[5];
            } else if (left >= 17) {
                w.live(1);
            }
            sum += w.weights();
        }
        return sum;
    }

    // ---- slots

    int keep(int slot) {
        if (!within(slot, 0, 1)) {
            return UNKNOWN;
        }
        slots.put(slot, world.copy());
        return world.day;
    }

    int again(int slot) {
        if (!within(slot, 0, 1)) {
            return UNKNOWN;
        }
        if (!slots.containsKey(slot)) {
            return STATE;
        }
        world = slots.get(slot).copy();
        acts.clear();
        return world.day;
    }

    int count(int what) {
        int groundCells = 0;
        for (int cell : world.grounds.keySet()) {
            groundCells |= 1 << cell;
        }
        int childCells = 0;
        int moored = 0;
        for (int i = 0; i < world.children.size(); i++) {
            childCells |= 1 << world.children.get(i).cell;
            moored |= world.children.get(i).moored ? 1 << i : 0;
        }
        return switch (what) {
            case 0 -> text.length();
            case 1 -> world.tides.size();
            case 2 -> world.grounds.size();
            case 3 -> world.children.size();
            case 4 -> world.day;
            case 5 -> groundCells;
            case 6 -> childCells;
            case 7 -> moored;
            case 8 -> world.weights();
            case 9 -> world.way();
            case 10 -> acts.size();
            case 11 -> knew.size();
            default -> OUTSIDE;
        };
    }
}
