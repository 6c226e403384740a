/** The edges that the document names of THE TEXT, FAULT, THE COAST: promises 1 to 8, a sentence a test. */
public final class CoastEdgesTest {
    private static final int NONE = PotSchools.NONE, UNKNOWN = PotSchools.UNKNOWN;
    private static final int OUTSIDE = PotSchools.OUTSIDE, STATE = PotSchools.STATE, FULL = PotSchools.FULL;
    private static final String CELLS = "abcdefghijkl";
    private static final String TIDES = "T0T1T2T3", GROUNDS = "Ga00Gb11Gc22Gd33Ge40Gl01", CHILDREN = "Ca0Ca1Cb2Cl3Cl0";

    public static void main(String[] args) {
        newObject();
        everyLetter();
        fortyEightLetters();
        refusedLetters();
        wipeEmptyAndFull();
        wipeLeavesTheRest();
        emptyText();
        firstFaultOfSeveral();
        notAtItsEnd();
        cellLetters();
        wayFigures();
        subjectFigures();
        kindFigures();
        partLetters();
        fourTides();
        sixGrounds();
        fiveChildren();
        eachForItself();
        groundsNotInOneCell();
        childrenInOneCell();
        numberedAsTold();
        noParts();
        longestText();
        madeAnew();
        whatStays();
        oldOnesAreGone();
        textStays();
        groundEdges();
        childEdges();
        knowsEdges();
        Due.end();
    }

    private static void fault(String text, int want) {
        Due.is("fault of '" + text + "'", Due.written(text).fault(), want);
    }

    // "Nothing, nobody."
    private static void newObject() {
        PotSchools x = new PotSchools();
        Due.is("new: fault()", x.fault(), 0);
        Due.is("new: coast()", x.coast(), STATE);
        Due.is("new: wipe()", x.wipe(), 0);
        Due.is("new: fit()", x.fit(), 0);
        Due.is("new: judge(4, 0)", x.judge(4, 0), NONE);
        Due.is("new: judge(1, 2000)", x.judge(1, 2000), 0);
        Due.is("new: began()", x.began(), 4095);
        Due.is("new: generations(30)", x.generations(30), 0);
        Due.is("new: keep(1)", x.keep(1), 0);
        Due.is("new: day()", x.day(), 0);
        Due.is("new: THE DAY behind it", x.count(4), 1);
        Due.is("new: ACTS behind it", x.count(10), 1);
        Due.is("new: undo()", x.undo(), 0);
        Due.is("new: again(1)", x.again(1), 0);
    }

    // "A letter (0 to 255) comes behind THE TEXT: how long it is."
    private static void everyLetter() {
        PotSchools x = new PotSchools();
        for (int letter = 0; letter <= 255; letter++) {
            if (letter % 48 == 0) {
                x.wipe();
            }
            Due.is("write(" + letter + ")", x.write(letter), letter % 48 + 1);
        }
    }

    // "FULL: there are 48."
    private static void fortyEightLetters() {
        PotSchools x = new PotSchools();
        for (int i = 1; i <= 47; i++) {
            x.write('S');
        }
        Due.is("the 48th letter", x.write('S'), 48);
        Due.is("the 49th letter", x.write('S'), FULL);
        Due.is("the 49th letter again", x.write(0), FULL);
        Due.is("letters", x.count(0), 48);
        Due.is("wipe()", x.wipe(), 48);
        Due.is("the first letter behind it", x.write('S'), 1);
        Due.is("no fault in it", x.fault(), NONE);
    }

    // "OUTSIDE": -1 and 256 are no letters, and 256 + 'S' is no S.
    private static void refusedLetters() {
        PotSchools x = Due.written("S");
        Due.is("write(-1)", x.write(-1), OUTSIDE);
        Due.is("write(256)", x.write(256), OUTSIDE);
        Due.is("write(256 + 'T')", x.write(256 + 'T'), OUTSIDE);
        Due.is("write('T' - 256)", x.write('T' - 256), OUTSIDE);
        Due.is("letters", x.count(0), 1);
        Due.is("fault()", x.fault(), NONE);
    }

    // "THE TEXT is empty: how long it was."
    private static void wipeEmptyAndFull() {
        PotSchools x = Due.written("S" + TIDES + GROUNDS + CHILDREN);
        Due.is("wipe() of 48", x.wipe(), 48);
        Due.is("wipe() of none", x.wipe(), 0);
        Due.is("letters", x.count(0), 0);
        Due.is("fault()", x.fault(), 0);
    }

    private static void wipeLeavesTheRest() {
        PotSchools x = Due.coast("ST1Gb00Ca0");
        x.day();
        x.keep(0);
        x.wipe();
        Due.is("the coast stays", x.child(0, 0), 1);
        Due.is("what is known stays", x.count(8), 1);
        Due.is("the row stays", x.undo(), 0);
        Due.is("what was kept stays", x.again(0), 1);
    }

    // "its length, if it is only not at its end": of nothing that is 0.
    private static void emptyText() {
        fault("", 0);
        Due.is("coast() of nothing", new PotSchools().coast(), STATE);
    }

    // "the place of the first letter by which THE TEXT can be no COAST, whatever came behind it"
    private static void firstFaultOfSeveral() {
        fault("X", 0);
        fault("XS", 0);
        fault("TST1", 0);
        fault("SX", 1);
        fault("SXT9", 1);
        fault("ST9T9", 2);
        fault("ST1X", 3);
        fault("ST1XT1", 3);
        fault("SGm99", 2);
        fault("SGa99", 3);
        fault("SGa09", 4);
        fault("SGa00X", 5);
        fault("SCm9", 2);
        fault("SCa9", 3);
        fault("SCa0X", 4);
        fault("SST1", 1);
        fault("ST1S", 3);
        fault("SG0a0", 2);
        fault("SC0a", 2);
        fault("STT", 2);
        fault("SGG", 2);
        fault("SCC", 2);
        fault("S S", 1);
    }

    // "its length, if it is only not at its end": within each PART, also the last that may come.
    private static void notAtItsEnd() {
        String full = "S" + TIDES + GROUNDS + CHILDREN;
        for (int length = 0; length <= full.length(); length++) {
            String part = full.substring(0, length);
            boolean whole = length == 1 || length > 0 && length <= 9 && length % 2 == 1
                || length > 9 && length <= 33 && (length - 9) % 4 == 0 || length > 33 && (length - 33) % 3 == 0;
            fault(part, whole ? NONE : length);
            Due.is("coast() of '" + part + "' is refused", Due.written(part).coast() < 0 ? 1 : 0, whole ? 0 : 1);
        }
    }

    // "CELLS are 0 to 11, told by letters a to l (a is 0, b 1, .. l 11)"
    private static void cellLetters() {
        for (int cell = 0; cell < 12; cell++) {
            PotSchools x = Due.coast("SG" + CELLS.charAt(cell) + "00C" + CELLS.charAt(cell) + "0");
            Due.is("ground at " + CELLS.charAt(cell), x.ground(0, 0), cell);
            Due.is("child at " + CELLS.charAt(cell), x.child(0, 0), cell);
            Due.is("bit of the ground", x.count(5), 1 << cell);
            Due.is("bit of the child", x.count(6), 1 << cell);
        }
        for (int letter = 0; letter <= 255; letter++) {
            boolean cell = letter >= 'a' && letter <= 'l';
            fault("SG" + (char) letter, cell ? 3 : 2);
            fault("SC" + (char) letter, cell ? 3 : 2);
        }
    }

    // "Tw a TIDE of WAY w (0 to 4)"
    private static void wayFigures() {
        for (int letter = 0; letter <= 255; letter++) {
            fault("ST" + (char) letter, letter >= '0' && letter <= '4' ? NONE : 2);
        }
        for (int way = 0; way <= 4; way++) {
            Due.is("way " + way, Due.coast("ST" + way).count(9), way);
        }
    }

    // "of SUBJECT s": 0 to 4.
    private static void subjectFigures() {
        for (int letter = 0; letter <= 255; letter++) {
            fault("SGa" + (char) letter, letter >= '0' && letter <= '4' ? 4 : 3);
        }
        for (int subject = 0; subject <= 4; subject++) {
            Due.is("subject " + subject, Due.coast("SGa" + subject + "0").ground(0, 1), subject);
        }
    }

    // "of KIND k: 0 WEED, 1 CRAB, 2 CONGER, 3 GHOST"; "0 PLAIN, 1 QUICK, 2 DREAMY, 3 SHY"
    private static void kindFigures() {
        for (int letter = 0; letter <= 255; letter++) {
            boolean kind = letter >= '0' && letter <= '3';
            fault("SGa0" + (char) letter, kind ? NONE : 4);
            fault("SCa" + (char) letter, kind ? NONE : 3);
        }
        for (int kind = 0; kind <= 3; kind++) {
            Due.is("kind of ground " + kind, Due.coast("SGa0" + kind).ground(0, 2), kind);
            Due.is("kind of child " + kind, Due.coast("SCa" + kind).child(0, 1), kind);
        }
    }

    // "S, then PARTS": of all letters only S begins, only T, G, C go on.
    private static void partLetters() {
        for (int letter = 0; letter <= 255; letter++) {
            fault("" + (char) letter, letter == 'S' ? NONE : 0);
            fault("S" + (char) letter, letter == 'T' || letter == 'G' || letter == 'C' ? 2 : 1);
        }
    }

    // "TIDES (4 at most)"
    private static void fourTides() {
        fault("S" + TIDES, NONE);
        fault("S" + TIDES + "T", 9);
        fault("S" + TIDES + "T0", 9);
        Due.is("coast() of four tides", Due.written("S" + TIDES).coast(), 400);
        Due.is("coast() of five tides", Due.written("S" + TIDES + "T0").coast(), STATE);
    }

    // "GROUNDS (6 at most)"
    private static void sixGrounds() {
        fault("S" + GROUNDS, NONE);
        fault("S" + GROUNDS + "G", 25);
        fault("S" + GROUNDS + "Gf00", 25);
        Due.is("coast() of six grounds", Due.written("S" + GROUNDS).coast(), 60);
        Due.is("coast() of seven grounds", Due.written("S" + GROUNDS + "Gf00").coast(), STATE);
    }

    // "CHILDREN (5 at most)"
    private static void fiveChildren() {
        fault("S" + CHILDREN, NONE);
        fault("S" + CHILDREN + "C", 16);
        fault("S" + CHILDREN + "Cb0", 16);
        Due.is("coast() of five children", Due.written("S" + CHILDREN).coast(), 5);
        Due.is("coast() of six children", Due.written("S" + CHILDREN + "Cb0").coast(), STATE);
    }

    // "each for itself": when one sort is full, the others go on.
    private static void eachForItself() {
        fault("S" + TIDES + "G", 10);
        fault("S" + TIDES + "C", 10);
        fault("S" + GROUNDS + "T", 26);
        fault("S" + GROUNDS + "C", 26);
        fault("S" + CHILDREN + "T", 17);
        fault("S" + CHILDREN + "G", 17);
    }

    // "a GROUND at CELL c (where none is told yet)"
    private static void groundsNotInOneCell() {
        for (int cell = 0; cell < 12; cell++) {
            char letter = CELLS.charAt(cell);
            char other = CELLS.charAt((cell + 1) % 12);
            fault("SG" + letter + "00G" + letter, 6);
            fault("SG" + letter + "00G" + letter + "11", 6);
            fault("SG" + letter + "00G" + other + "00", NONE);
            fault("SG" + letter + "00G" + other + "00G" + letter + "00", 10);
        }
        PotSchools x = Due.coast("SGa00");
        Due.write(x, "SGa11");
        Due.is("told of another coast it may be told again", x.coast(), 10);
        Due.is("its subject then", x.ground(0, 1), 1);
    }

    private static void childrenInOneCell() {
        PotSchools x = Due.coast("SGl00Cl0Cl1Cl2Cl3Cl0");
        Due.is("five in one cell", x.ground(0, 3), 31);
        Due.is("one bit for all", x.count(6), 1 << 11);
    }

    // "numbered as they are told, each for itself"
    private static void numberedAsTold() {
        PotSchools x = Due.coast("SCl0T3Gk10Ca1T2Gb23Cf2");
        int[] children = {11, 0, 5};
        for (int child = 0; child < 3; child++) {
            Due.is("cell of child " + child, x.child(child, 0), children[child]);
            Due.is("kind of child " + child, x.child(child, 1), child);
        }
        Due.is("cell of ground 0", x.ground(0, 0), 10);
        Due.is("cell of ground 1", x.ground(1, 0), 1);
        Due.is("kind of ground 1", x.ground(1, 2), 3);
        Due.is("tide 0", x.count(9), 3);
        x.day();
        Due.is("tide 1", x.count(9), 2);
    }

    // "PARTS, none or more"
    private static void noParts() {
        PotSchools x = Due.coast("ST1Gb00Ca0");
        Due.write(x, "S");
        Due.is("coast() of S", x.coast(), 0);
        Due.is("no tide", x.count(9), 4);
        Due.is("no ground", x.ground(0, 0), UNKNOWN);
        Due.is("no child", x.child(0, 0), UNKNOWN);
        Due.is("nobody's cells", x.count(6), 0);
        Due.is("no grounds' cells", x.count(5), 0);
        Due.is("fit() of nobody", x.fit(), 0);
    }

    // "THE TEXT is letters (48 at most)": a COAST with all that may be told has just so many.
    private static void longestText() {
        PotSchools x = Due.written("S" + TIDES + GROUNDS + CHILDREN);
        Due.is("letters", x.count(0), 48);
        Due.is("fault()", x.fault(), NONE);
        Due.is("coast()", x.coast(), 465);
        Due.is("the last ground", x.ground(5, 0), 11);
        Due.is("a seventh", x.ground(6, 0), UNKNOWN);
        Due.is("the last child", x.child(4, 0), 11);
        Due.is("a sixth", x.child(5, 0), UNKNOWN);
    }

    // "When THE COAST is made anew, all know nothing, none is MOORED, THE DAY is 0."
    private static void madeAnew() {
        PotSchools x = Due.coast("ST1Gb00Gf10Ca0Ce1");
        x.moor(0);
        x.day();
        x.set(0, 1);
        x.day();
        x.keep(0);
        x.keep(1);
        Due.is("WEIGHTS", x.count(8), 3);
        Due.is("coast()", x.coast(), 122);
        Due.is("WEIGHTS then", x.count(8), 0);
        for (int subject = 0; subject < 5; subject++) {
            Due.is("knows(1, " + subject + ")", x.knows(1, subject), 0);
        }
        Due.is("MOORED", x.count(7), 0);
        Due.is("THE DAY", x.count(4), 0);
        Due.is("child 0 is where it is told", x.child(0, 0), 0);
        Due.is("child 1 is where it is told", x.child(1, 0), 4);
        Due.is("the row is empty", x.count(10), 0);
        Due.is("undo()", x.undo(), STATE);
        Due.is("SLOT 0 is gone", x.again(0), STATE);
        Due.is("SLOT 1 is gone", x.again(1), STATE);
    }

    // "KNEW, THE SEED stay"
    private static void whatStays() {
        PotSchools x = Due.coast("SGb00");
        for (int i = 0; i < 6; i++) {
            x.knew(0, 9, 9);
        }
        x.seed(Long.MIN_VALUE);
        Due.write(x, "SGc00");
        x.coast();
        Due.is("KNEW", x.count(11), 6);
        Due.is("a seventh KNEW", x.knew(0, 9, 9), FULL);
        Due.is("began() by the new coast", x.began(), 4);
        Due.is("THE SEED", x.seed(0), Long.MIN_VALUE);
    }

    private static void oldOnesAreGone() {
        PotSchools x = Due.coast("ST1" + GROUNDS + CHILDREN);
        x.moor(4);
        Due.write(x, "SGf00Ca0Cf0");
        Due.is("coast()", x.coast(), 12);
        Due.is("no tide any more", x.count(9), 4);
        Due.is("child 2 is gone", x.child(2, 0), UNKNOWN);
        Due.is("ground 1 is gone", x.ground(1, 0), UNKNOWN);
        Due.is("no ground in a any more", x.child(0, 4), NONE);
        Due.is("nobody is moored", x.count(7), 0);
        Due.is("day(): only f teaches", x.day(), 1);
        Due.is("cells of children", x.count(6), 1 | 1 << 5);
        Due.write(x, "SGf00Ca0Cf3Cf0");
        x.coast();
        Due.write(x, "SGf00Ca0Cf3");
        x.coast();
        Due.is("one that is gone disturbs no shy one", x.day(), 1);
    }

    // THE TEXT stays when it has become THE COAST, and can be gone on with.
    private static void textStays() {
        PotSchools x = Due.coast("SCa0");
        Due.is("letters", x.count(0), 4);
        Due.is("fault()", x.fault(), NONE);
        Due.is("write('T')", x.write('T'), 5);
        Due.is("fault() then", x.fault(), 5);
        Due.is("the coast is as it was", x.count(1), 0);
        x.write('1');
        Due.is("fault() of the whole", x.fault(), NONE);
        Due.is("the coast is still as it was", x.count(1), 0);
        Due.is("coast()", x.coast(), 101);
    }

    // "CHILDREN in it (3: bits)"; GROUND 5 is the last.
    private static void groundEdges() {
        PotSchools x = Due.coast("S" + GROUNDS + CHILDREN);
        Due.is("ground(0, 3)", x.ground(0, 3), 3);
        Due.is("ground(1, 3)", x.ground(1, 3), 4);
        Due.is("ground(2, 3), nobody", x.ground(2, 3), 0);
        Due.is("ground(5, 3)", x.ground(5, 3), 24);
        Due.is("ground(5, 4)", x.ground(5, 4), OUTSIDE);
        Due.is("ground(5, -1)", x.ground(5, -1), OUTSIDE);
        Due.is("ground(6, 0)", x.ground(6, 0), UNKNOWN);
    }

    // "the GROUND in its CELL (4; NONE)"; CHILD 4 is the last.
    private static void childEdges() {
        PotSchools x = Due.coast("S" + GROUNDS + CHILDREN);
        Due.is("child(0, 4)", x.child(0, 4), 0);
        Due.is("child(4, 4)", x.child(4, 4), 5);
        x.set(4, 5);
        Due.is("child(4, 4), no ground", x.child(4, 4), NONE);
        Due.is("child(4, 2), not moored", x.child(4, 2), 0);
        x.moor(4);
        Due.is("child(4, 2), moored", x.child(4, 2), 1);
        Due.is("child(3, 2), another", x.child(3, 2), 0);
        Due.is("child(4, 5)", x.child(4, 5), OUTSIDE);
        Due.is("child(4, -1)", x.child(4, -1), OUTSIDE);
        Due.is("child(5, 0)", x.child(5, 0), UNKNOWN);
    }

    // "what one knows of each is 0 to 9"; SUBJECTS 0 to 4.
    private static void knowsEdges() {
        PotSchools x = Due.coast("SGa00Gb10Gc20Gd30Ge40Ca1");
        for (int subject = 0; subject < 5; subject++) {
            x.set(0, subject);
            Due.is("knows(0, " + subject + ") at first", x.knows(0, subject), 0);
            Due.days(x, 6);
            Due.is("knows(0, " + subject + ") at most", x.knows(0, subject), 9);
        }
        Due.is("all that can be known", x.child(0, 3), 45);
        Due.is("knows(0, 5)", x.knows(0, 5), UNKNOWN);
        Due.is("knows(0, -1)", x.knows(0, -1), UNKNOWN);
        Due.is("put(0)", x.put(0), 45);
        for (int subject = 0; subject < 5; subject++) {
            Due.is("knows(0, " + subject + "), put back", x.knows(0, subject), 0);
        }
    }
}
