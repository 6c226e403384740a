/** Lobster pots that are schools: a coast told as a text, its days, and what is known by them. */
public final class PotSchools {
    public static final int UNKNOWN = -1, OUTSIDE = -2, STATE = -3, FULL = -4, NONE = -9;

    private static final int CELLS = 12, ACROSS = 4, SUBJECTS = 5, ALL_KNOWN = 9;
    private static final int MOST_LETTERS = 48, MOST_TIDES = 4, MOST_GROUNDS = 6, MOST_CHILDREN = 5;
    private static final int MOST_ACTS = 14, MOST_KNEW = 6, SLOTS = 2;
    private static final int LEFT = 0, RIGHT = 1, IN = 2, OUT = 3, STILL = 4;
    private static final int WEED = 0, CRAB = 1, CONGER = 2, GHOST = 3;
    private static final int PLAIN = 0, QUICK = 1, DREAMY = 2, SHY = 3;
    private static final int ALL_GROUNDS = (1 << MOST_GROUNDS) - 1;

    private static final int MOST_DAYS_AHEAD = 20, MOST_DAYS_BEST = 12, MOST_DAYS_KNEW = 9;
    private static final int DAYS_FIT = 4, DAYS_SHARE = 6, DAYS_RESTS = 5, MOST_DAYS_FAILS = 6;
    private static final int TENTHS = 10, MOST_DOINGS = 4, MOST_GENERATIONS = 30;
    private static final int FIGURES_OF_A_DOING = 10000;
    private static final long SEED_TIMES = 6364136223846793005L, SEED_MORE = 1442695040888963407L;

    private final int[] letters = new int[MOST_LETTERS];
    private int length;
    private Coast shore = new Coast();
    private Coast draft = new Coast();
    private final Pots now = new Pots();
    // Days to come are tried out in these two, so that no call needs new rows.
    private final Pots trial = new Pots();
    private final Pots start = new Pots();
    private final Past past = new Past();
    private final Pots[] kept = new Pots[SLOTS];
    private int keptBits;
    private final Memories memories = new Memories();
    private long seedNow;
    private final int[] worths = new int[1 << MOST_GROUNDS];
    private final int[] onesWeights = new int[MOST_GROUNDS * MOST_GROUNDS];
    private final int[] othersWeights = new int[MOST_GROUNDS * MOST_GROUNDS];

    public PotSchools() {
        for (int slot = 0; slot < kept.length; slot++) {
            kept[slot] = new Pots();
        }
    }

    // ---- the coast

    public int write(int letter) {
        if (letter < 0 || letter > 255) {
            return OUTSIDE;
        }
        if (length >= MOST_LETTERS) {
            return FULL;
        }
        lay(letters, length, letter);
        length++;
        return length;
    }

    public int wipe() {
        int was = length;
        length = 0;
        return was;
    }

    public int fault() {
        return readText();
    }

    public int coast() {
        if (readText() != NONE) {
            return STATE;
        }
        Coast old = shore;
        shore = draft;
        draft = old;
        now.begin(shore);
        past.clear();
        keptBits = 0;
        return 100 * shore.tides + 10 * shore.grounds + shore.children;
    }

    public int ground(int ground, int what) {
        if (!isGround(ground)) {
            return UNKNOWN;
        }
        switch (what) {
            case 0:
                return at(shore.groundCells, ground);
            case 1:
                return at(shore.subjects, ground);
            case 2:
                return at(shore.groundKinds, ground);
            case 3:
                return now.childrenIn(at(shore.groundCells, ground), shore.children);
            default:
                return OUTSIDE;
        }
    }

    public int child(int child, int what) {
        if (!isChild(child)) {
            return UNKNOWN;
        }
        switch (what) {
            case 0:
                return at(now.cells, child);
            case 1:
                return at(shore.childKinds, child);
            case 2:
                return now.isMoored(child) ? 1 : 0;
            case 3:
                return now.weight(child);
            case 4:
                return shore.groundIn(at(now.cells, child));
            default:
                return OUTSIDE;
        }
    }

    public int knows(int child, int subject) {
        if (!isChild(child) || !isSubject(subject)) {
            return UNKNOWN;
        }
        return now.known(child, subject);
    }

    // ---- acts

    public int day() {
        past.remember(now);
        now.pass(shore, true, ALL_GROUNDS);
        return now.weights();
    }

    public int set(int child, int cell) {
        if (!isChild(child) || !isCell(cell)) {
            return UNKNOWN;
        }
        int was = at(now.cells, child);
        if (was == cell) {
            return STATE;
        }
        past.remember(now);
        lay(now.cells, child, cell);
        return was;
    }

    public int moor(int child) {
        if (!isChild(child)) {
            return UNKNOWN;
        }
        past.remember(now);
        now.turnMooring(child);
        return now.isMoored(child) ? 1 : 0;
    }

    public int put(int child) {
        if (!isChild(child)) {
            return UNKNOWN;
        }
        int was = now.weight(child);
        if (was == 0) {
            return STATE;
        }
        past.remember(now);
        now.unlearn(child);
        return was;
    }

    public int undo() {
        if (past.size == 0) {
            return STATE;
        }
        past.takeBack(now);
        return past.size;
    }

    // ---- days to come, grounds

    public int ahead(int child, int subject, int n) {
        if (!isChild(child) || !isSubject(subject)) {
            return UNKNOWN;
        }
        if (n < 0 || n > MOST_DAYS_AHEAD) {
            return OUTSIDE;
        }
        tryDays(n);
        return trial.known(child, subject);
    }

    public int later(int child, int n, int what) {
        if (!isChild(child)) {
            return UNKNOWN;
        }
        if (n < 0 || n > MOST_DAYS_AHEAD || what < 0 || what > 1) {
            return OUTSIDE;
        }
        tryDays(n);
        return what == 0 ? at(trial.cells, child) : trial.weight(child);
    }

    public int enough(int child, int subject, int v) {
        if (!isChild(child) || !isSubject(subject)) {
            return UNKNOWN;
        }
        if (v < 1 || v > ALL_KNOWN) {
            return OUTSIDE;
        }
        trial.take(now);
        for (int days = 0; days <= MOST_DAYS_AHEAD; days++) {
            if (trial.known(child, subject) >= v) {
                return days;
            }
            trial.pass(shore, true, ALL_GROUNDS);
        }
        return NONE;
    }

    public int best(int child, int n, int what) {
        if (!isChild(child)) {
            return UNKNOWN;
        }
        if (n < 1 || n > MOST_DAYS_BEST || what < 0 || what > 1) {
            return OUTSIDE;
        }
        int which = 0;
        int most = -1;
        for (int cell = 0; cell < CELLS; cell++) {
            trial.take(now);
            lay(trial.cells, child, cell);
            trial.passDays(shore, n);
            int weight = trial.weight(child);
            if (weight > most) {
                which = cell;
                most = weight;
            }
        }
        return what == 0 ? which : most;
    }

    public int fit() {
        if (shore.grounds < shore.children) {
            return NONE;
        }
        start.take(now);
        return mostFrom(0, 0, shore, start, trial);
    }

    public int judge(int n, long row) {
        if (n < 1 || n > MOST_DOINGS) {
            return OUTSIDE;
        }
        long unit = power(FIGURES_OF_A_DOING, n);
        if (row < 0 || row >= unit) {
            return OUTSIDE;
        }
        trial.take(now);
        for (int place = 0; place < n; place++) {
            unit = power(FIGURES_OF_A_DOING, n - 1 - place);
            int doing = unit > 0 ? (int) (row / unit % FIGURES_OF_A_DOING) : 0;
            if (!canBeDone(doing)) {
                return place;
            }
        }
        return NONE;
    }

    // ---- where it began

    public int knew(int subject, int n, int v) {
        if (!isSubject(subject)) {
            return UNKNOWN;
        }
        if (n < 0 || n > MOST_DAYS_KNEW || v < 0 || v > ALL_KNOWN) {
            return OUTSIDE;
        }
        if (memories.size >= MOST_KNEW) {
            return FULL;
        }
        memories.add(subject, n, v);
        return memories.size;
    }

    public int forget() {
        int was = memories.size;
        memories.size = 0;
        return was;
    }

    public int began() {
        int cells = 0;
        for (int cell = 0; cell < CELLS; cell++) {
            if (mayHaveBegun(cell)) {
                cells |= 1 << cell;
            }
        }
        return cells;
    }

    // ---- shares, rests, chances

    public int share(int ground, int child, boolean upper) {
        if (!isGround(ground) || !isChild(child)) {
            return UNKNOWN;
        }
        int sets = 1 << shore.grounds;
        for (int come = 0; come < sets; come++) {
            lay(worths, come, weightWith(child, come));
        }
        int above = 0;
        for (int come = 0; come < sets; come++) {
            if ((come >> ground & 1) == 0) {
                int more = at(worths, come | 1 << ground) - at(worths, come);
                int earlier = Integer.bitCount(come);
                above += more * factorial(earlier) * factorial(shore.grounds - 1 - earlier);
            }
        }
        return inLeastTerms(above, factorial(shore.grounds), upper);
    }

    public int rests(int one, int other, int what) {
        if (!isChild(one) || !isChild(other)) {
            return UNKNOWN;
        }
        if (one == other || what < 0 || what > 1) {
            return OUTSIDE;
        }
        weighPairs(one, other);
        int many = 0;
        int first = NONE;
        for (int ones = 0; ones < shore.grounds; ones++) {
            for (int others = 0; others < shore.grounds; others++) {
                if (isRest(ones, others)) {
                    first = many == 0 ? 10 * ones + others : first;
                    many++;
                }
            }
        }
        return what == 0 ? many : first;
    }

    public int fails(int child, int subject, int v, int n, int x, boolean upper) {
        if (!isChild(child) || !isSubject(subject)) {
            return UNKNOWN;
        }
        if (v < 0 || v > ALL_KNOWN || n < 1 || n > MOST_DAYS_FAILS || x < 0 || x > TENTHS) {
            return OUTSIDE;
        }
        int above = 0;
        for (int failing = 0; failing < 1 << n; failing++) {
            int chance = chanceOf(failing, n, x);
            if (chance > 0) {
                tryFailingDays(failing, n);
                above += trial.known(child, subject) >= v ? chance : 0;
            }
        }
        return inLeastTerms(above, (int) power(TENTHS, n), upper);
    }

    public long seed(long v) {
        long was = seedNow;
        seedNow = v;
        return was;
    }

    public int generations(int m) {
        if (m < 1 || m > MOST_GENERATIONS) {
            return OUTSIDE;
        }
        trial.take(now);
        int together = 0;
        for (int time = 0; time < m; time++) {
            seedNow = seedNow * SEED_TIMES + SEED_MORE;
            tryChance((int) (seedNow >>> 33) & 31);
            together += trial.weights();
        }
        return together;
    }

    // ---- slots

    public int keep(int slot) {
        Pots room = slotAt(slot);
        if (room == null) {
            return UNKNOWN;
        }
        room.take(now);
        keptBits |= 1 << slot;
        return now.day;
    }

    public int again(int slot) {
        Pots room = slotAt(slot);
        if (room == null) {
            return UNKNOWN;
        }
        if ((keptBits >> slot & 1) == 0) {
            return STATE;
        }
        now.take(room);
        past.clear();
        return now.day;
    }

    public int count(int what) {
        switch (what) {
            case 0:
                return length;
            case 1:
                return shore.tides;
            case 2:
                return shore.grounds;
            case 3:
                return shore.children;
            case 4:
                return now.day;
            case 5:
                return cellBits(shore.groundCells, shore.grounds);
            case 6:
                return cellBits(now.cells, shore.children);
            case 7:
                return now.moored;
            case 8:
                return now.weights();
            case 9:
                return shore.wayOn(now.day);
            case 10:
                return past.size;
            case 11:
                return memories.size;
            default:
                return OUTSIDE;
        }
    }

    // ---- what there is

    private boolean isGround(int ground) {
        return ground >= 0 && ground < shore.grounds;
    }

    private boolean isChild(int child) {
        return child >= 0 && child < shore.children;
    }

    private static boolean isCell(int cell) {
        return cell >= 0 && cell < CELLS;
    }

    private static boolean isSubject(int subject) {
        return subject >= 0 && subject < SUBJECTS;
    }

    private Pots slotAt(int slot) {
        return slot >= 0 && slot < kept.length ? kept[slot] : null;
    }

    private static int cellBits(int[] cells, int size) {
        int bits = 0;
        for (int i = 0; i < size; i++) {
            bits |= 1 << at(cells, i);
        }
        return bits;
    }

    /** Reads the text into the draft, letter by letter: its fault, or NONE. */
    private int readText() {
        draft.clear();
        for (int place = 0; place < length; place++) {
            if (!draft.takes(at(letters, place))) {
                return place;
            }
        }
        return draft.isWhole() ? NONE : length;
    }

    // ---- trials: what is asked of days to come is done to a copy

    private void tryDays(int n) {
        trial.take(now);
        trial.passDays(shore, n);
    }

    /** The most weight of all, if children from this one on are yet to be set on unused grounds. */
    private static int mostFrom(int child, int used, Coast shore, Pots start, Pots trial) {
        if (child >= shore.children || child >= MOST_CHILDREN) {
            trial.take(start);
            trial.passDays(shore, DAYS_FIT);
            return trial.weights();
        }
        int most = NONE;
        for (int ground = 0; ground < shore.grounds; ground++) {
            if ((used >> ground & 1) == 0) {
                lay(start.cells, child, at(shore.groundCells, ground));
                int together = mostFrom(child + 1, used | 1 << ground, shore, start, trial);
                most = Math.max(most, together);
            }
        }
        return most;
    }

    /** Does to the trial what four figures tell, or answers that it can not be. */
    private boolean canBeDone(int doing) {
        int verb = doing / 1000;
        int second = doing / 100 % 10;
        int third = doing / 10 % 10;
        int last = doing % 10;
        switch (verb) {
            case 0:
                return doing == 0 && canPass();
            case 1:
                return isChild(second) && canSet(second, 10 * third + last);
            case 2:
                return second == 0 && third == 0 && isChild(last) && canMoor(last);
            case 3:
                return second == 0 && third == 0 && isChild(last) && canPutBack(last);
            case 4:
                return isChild(second) && isSubject(third) && trial.known(second, third) >= last;
            default:
                return false;
        }
    }

    private boolean canPass() {
        trial.pass(shore, true, ALL_GROUNDS);
        return true;
    }

    private boolean canSet(int child, int cell) {
        if (!isCell(cell) || at(trial.cells, child) == cell) {
            return false;
        }
        lay(trial.cells, child, cell);
        return true;
    }

    private boolean canMoor(int child) {
        trial.turnMooring(child);
        return true;
    }

    private boolean canPutBack(int child) {
        if (trial.weight(child) == 0) {
            return false;
        }
        trial.unlearn(child);
        return true;
    }

    private boolean mayHaveBegun(int cell) {
        trial.letDown(cell);
        for (int days = 0; days <= MOST_DAYS_KNEW; days++) {
            if (!memories.areSo(days, trial)) {
                return false;
            }
            trial.passAlone(shore);
        }
        return true;
    }

    private int weightWith(int child, int come) {
        trial.take(now);
        for (int i = 0; i < DAYS_SHARE; i++) {
            trial.pass(shore, true, come);
        }
        return trial.weight(child);
    }

    private void weighPairs(int one, int other) {
        for (int ones = 0; ones < shore.grounds; ones++) {
            for (int others = 0; others < shore.grounds; others++) {
                trial.take(now);
                trial.fix(one, at(shore.groundCells, ones));
                trial.fix(other, at(shore.groundCells, others));
                trial.passDays(shore, DAYS_RESTS);
                lay(onesWeights, pair(ones, others), trial.weight(one));
                lay(othersWeights, pair(ones, others), trial.weight(other));
            }
        }
    }

    private static int pair(int ones, int others) {
        return ones * MOST_GROUNDS + others;
    }

    private boolean isRest(int ones, int others) {
        int onesWeight = at(onesWeights, pair(ones, others));
        int othersWeight = at(othersWeights, pair(ones, others));
        for (int another = 0; another < shore.grounds; another++) {
            if (at(onesWeights, pair(another, others)) > onesWeight
                    || at(othersWeights, pair(ones, another)) > othersWeight) {
                return false;
            }
        }
        return true;
    }

    /** How many of 10 to the n like cases have the tide fail on just these days (bits). */
    private static int chanceOf(int failing, int n, int x) {
        int chance = 1;
        for (int i = 0; i < n; i++) {
            chance *= (failing >> i & 1) == 1 ? x : TENTHS - x;
        }
        return chance;
    }

    private void tryFailingDays(int failing, int n) {
        trial.take(now);
        for (int i = 0; i < n; i++) {
            trial.pass(shore, (failing >> i & 1) == 0, ALL_GROUNDS);
        }
    }

    /** Does to the trial what a chance of 0 to 31 stands for. */
    private void tryChance(int left) {
        if (left >= CELLS + MOST_CHILDREN) {
            trial.pass(shore, true, ALL_GROUNDS);
        } else if (left >= CELLS && isChild(left - CELLS)) {
            trial.unlearn(left - CELLS);
        } else if (left < CELLS && isChild(0)) {
            lay(trial.cells, 0, left);
        }
    }

    // ---- numbers and rows

    private static int at(int[] row, int place) {
        return row != null && place >= 0 && place < row.length ? row[place] : 0;
    }

    private static void lay(int[] row, int place, int value) {
        if (row != null && place >= 0 && place < row.length) {
            row[place] = value;
        }
    }

    private static long power(int base, int exponent) {
        long power = 1;
        for (int i = 0; i < exponent; i++) {
            power *= base;
        }
        return power;
    }

    private static int factorial(int n) {
        int product = 1;
        for (int i = 2; i <= n; i++) {
            product *= i;
        }
        return product;
    }

    private static int inLeastTerms(int above, int below, boolean upper) {
        int divisor = commonDivisor(Math.abs(above), below);
        if (divisor < 1) {
            return upper ? above : below;
        }
        return upper ? above / divisor : below / divisor;
    }

    private static int commonDivisor(int a, int b) {
        int more = a;
        int less = b;
        // Euclid's steps on two ints are fewer than 50.
        for (int i = 0; i < 64 && less != 0; i++) {
            int left = more % less;
            more = less;
            less = left;
        }
        return more;
    }

    /** The cell that lies by a way from a cell, or the cell itself where there is none. */
    private static int beside(int cell, int way) {
        switch (way) {
            case LEFT:
                return cell % ACROSS == 0 ? cell : cell - 1;
            case RIGHT:
                return cell % ACROSS == ACROSS - 1 ? cell : cell + 1;
            case IN:
                return cell < ACROSS ? cell : cell - ACROSS;
            case OUT:
                return cell >= CELLS - ACROSS ? cell : cell + ACROSS;
            default:
                return cell;
        }
    }

    /** How much more a child that learns knows then; below 0: less. */
    private static int gain(int groundKind, int childKind, int known) {
        int more = 0;
        switch (groundKind) {
            case WEED:
                more = 1;
                break;
            case CRAB:
                more = known == 0 ? 3 : 0;
                break;
            case CONGER:
                more = known >= 3 ? 2 : 0;
                break;
            case GHOST:
                more = -1;
                break;
            default:
                break;
        }
        return more > 0 && childKind == QUICK ? more + 1 : more;
    }

    /** A coast as it is told, and which letter is due next in the telling. */
    private static final class Coast {
        private static final int DUE_S = 0, DUE_PART = 1, DUE_WAY = 2;
        private static final int DUE_GROUND_CELL = 3, DUE_SUBJECT = 4, DUE_GROUND_KIND = 5;
        private static final int DUE_CHILD_CELL = 6, DUE_CHILD_KIND = 7;

        final int[] ways = new int[MOST_TIDES];
        final int[] groundCells = new int[MOST_GROUNDS];
        final int[] subjects = new int[MOST_GROUNDS];
        final int[] groundKinds = new int[MOST_GROUNDS];
        final int[] childCells = new int[MOST_CHILDREN];
        final int[] childKinds = new int[MOST_CHILDREN];
        // By cell: one more than the ground's number, so that a new row tells of no ground.
        final int[] groundsByCell = new int[CELLS];
        int tides;
        int grounds;
        int children;
        private int due = DUE_S;

        void clear() {
            tides = 0;
            grounds = 0;
            children = 0;
            due = DUE_S;
            for (int cell = 0; cell < groundsByCell.length; cell++) {
                groundsByCell[cell] = 0;
            }
        }

        boolean isWhole() {
            return due == DUE_PART;
        }

        int groundIn(int cell) {
            int told = at(groundsByCell, cell);
            return told > 0 ? told - 1 : NONE;
        }

        int wayOn(int day) {
            return tides > 0 ? at(ways, day % tides) : STILL;
        }

        /** Takes the next letter, or answers that no coast has it there. */
        boolean takes(int letter) {
            int figure = letter - '0';
            int cell = letter - 'a';
            switch (due) {
                case DUE_S:
                    return letter == 'S' && goesOn(DUE_PART);
                case DUE_PART:
                    return takesPart(letter);
                case DUE_WAY:
                    return takesFigure(ways, tides, figure, STILL) && endsTide();
                case DUE_GROUND_CELL:
                    return groundIn(cell) == NONE
                            && takesFigure(groundCells, grounds, cell, CELLS - 1) && goesOn(DUE_SUBJECT);
                case DUE_SUBJECT:
                    return takesFigure(subjects, grounds, figure, SUBJECTS - 1) && goesOn(DUE_GROUND_KIND);
                case DUE_GROUND_KIND:
                    return takesFigure(groundKinds, grounds, figure, GHOST) && endsGround();
                case DUE_CHILD_CELL:
                    return takesFigure(childCells, children, cell, CELLS - 1) && goesOn(DUE_CHILD_KIND);
                case DUE_CHILD_KIND:
                    return takesFigure(childKinds, children, figure, SHY) && endsChild();
                default:
                    return false;
            }
        }

        private boolean takesPart(int letter) {
            switch (letter) {
                case 'T':
                    return tides < MOST_TIDES && goesOn(DUE_WAY);
                case 'G':
                    return grounds < MOST_GROUNDS && goesOn(DUE_GROUND_CELL);
                case 'C':
                    return children < MOST_CHILDREN && goesOn(DUE_CHILD_CELL);
                default:
                    return false;
            }
        }

        private boolean takesFigure(int[] row, int place, int figure, int most) {
            if (figure < 0 || figure > most) {
                return false;
            }
            lay(row, place, figure);
            return true;
        }

        private boolean endsTide() {
            tides++;
            return goesOn(DUE_PART);
        }

        private boolean endsGround() {
            grounds++;
            lay(groundsByCell, at(groundCells, grounds - 1), grounds);
            return goesOn(DUE_PART);
        }

        private boolean endsChild() {
            children++;
            return goesOn(DUE_PART);
        }

        private boolean goesOn(int next) {
            due = next;
            return true;
        }
    }

    /** Where pots are, which are moored, what all know, the day. */
    private static final class Pots {
        final int[] cells = new int[MOST_CHILDREN];
        // Children who are not told know nothing here, so that sums may go over all places.
        final int[] known = new int[MOST_CHILDREN * SUBJECTS];
        int moored;
        int day;

        void begin(Coast shore) {
            letDown(0);
            for (int child = 0; child < shore.children; child++) {
                lay(cells, child, at(shore.childCells, child));
            }
        }

        /** All is as on day 0, child 0 in a cell. */
        void letDown(int cell) {
            for (int i = 0; i < known.length; i++) {
                known[i] = 0;
            }
            moored = 0;
            day = 0;
            lay(cells, 0, cell);
        }

        void take(Pots other) {
            for (int i = 0; i < cells.length; i++) {
                cells[i] = at(other.cells, i);
            }
            for (int i = 0; i < known.length; i++) {
                known[i] = at(other.known, i);
            }
            moored = other.moored;
            day = other.day;
        }

        boolean isMoored(int child) {
            return (moored >> child & 1) == 1;
        }

        void turnMooring(int child) {
            moored ^= 1 << child;
        }

        /** A child's pot is in a cell and moored there. */
        void fix(int child, int cell) {
            lay(cells, child, cell);
            moored |= 1 << child;
        }

        int known(int child, int subject) {
            return at(known, child * SUBJECTS + subject);
        }

        int weight(int child) {
            int weight = 0;
            for (int subject = 0; subject < SUBJECTS; subject++) {
                weight += known(child, subject);
            }
            return weight;
        }

        int weights() {
            int together = 0;
            for (int i = 0; i < known.length; i++) {
                together += known[i];
            }
            return together;
        }

        void unlearn(int child) {
            for (int subject = 0; subject < SUBJECTS; subject++) {
                lay(known, child * SUBJECTS + subject, 0);
            }
        }

        int childrenIn(int cell, int children) {
            int bits = 0;
            for (int child = 0; child < children; child++) {
                if (at(cells, child) == cell) {
                    bits |= 1 << child;
                }
            }
            return bits;
        }

        void passDays(Coast shore, int n) {
            for (int i = 0; i < n; i++) {
                pass(shore, true, ALL_GROUNDS);
            }
        }

        /** A day, with the tide or without it, and with the grounds that are there (bits). */
        void pass(Coast shore, boolean tideGoes, int there) {
            int way = tideGoes ? shore.wayOn(day) : STILL;
            for (int child = 0; child < shore.children; child++) {
                drift(child, way);
            }
            for (int child = 0; child < shore.children; child++) {
                int kind = at(shore.childKinds, child);
                if (mayLearn(child, kind, shore.children)) {
                    learn(child, kind, shore, there);
                }
            }
            day++;
        }

        /** A day of child 0, as a plain one and without the others. */
        void passAlone(Coast shore) {
            drift(0, shore.wayOn(day));
            learn(0, PLAIN, shore, ALL_GROUNDS);
            day++;
        }

        private void drift(int child, int way) {
            if (!isMoored(child)) {
                lay(cells, child, beside(at(cells, child), way));
            }
        }

        private boolean mayLearn(int child, int kind, int children) {
            switch (kind) {
                case DREAMY:
                    return day % 2 != 0;
                case SHY:
                    return childrenIn(at(cells, child), children) == 1 << child;
                default:
                    return true;
            }
        }

        private void learn(int child, int kind, Coast shore, int there) {
            int ground = shore.groundIn(at(cells, child));
            if (ground < 0 || (there >> ground & 1) == 0) {
                return;
            }
            int subject = at(shore.subjects, ground);
            int was = known(child, subject);
            int then = was + gain(at(shore.groundKinds, ground), kind, was);
            lay(known, child * SUBJECTS + subject, Math.max(0, Math.min(ALL_KNOWN, then)));
        }
    }

    /** How all was ahead of each act in the row, the oldest first; places go round. */
    private static final class Past {
        private final Pots[] rows = new Pots[MOST_ACTS];
        private int next;
        int size;

        Past() {
            for (int i = 0; i < rows.length; i++) {
                rows[i] = new Pots();
            }
        }

        void clear() {
            size = 0;
        }

        void remember(Pots pots) {
            Pots row = rowAt(next);
            if (row != null) {
                row.take(pots);
            }
            next = (next + 1) % MOST_ACTS;
            size = Math.min(size + 1, MOST_ACTS);
        }

        void takeBack(Pots pots) {
            next = (next + MOST_ACTS - 1) % MOST_ACTS;
            size = Math.max(size - 1, 0);
            Pots row = rowAt(next);
            if (row != null) {
                pots.take(row);
            }
        }

        private Pots rowAt(int place) {
            return place >= 0 && place < rows.length ? rows[place] : null;
        }
    }

    /** What one knew of a subject behind so many days. */
    private static final class Memories {
        private final int[] subjects = new int[MOST_KNEW];
        private final int[] days = new int[MOST_KNEW];
        private final int[] amounts = new int[MOST_KNEW];
        int size;

        void add(int subject, int behind, int amount) {
            lay(subjects, size, subject);
            lay(days, size, behind);
            lay(amounts, size, amount);
            size++;
        }

        /** Whether all that was known behind just so many days is what child 0 knows. */
        boolean areSo(int behind, Pots pots) {
            for (int i = 0; i < size; i++) {
                if (at(days, i) == behind && pots.known(0, at(subjects, i)) != at(amounts, i)) {
                    return false;
                }
            }
            return true;
        }
    }
}
