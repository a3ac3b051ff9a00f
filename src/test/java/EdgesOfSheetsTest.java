import java.util.Arrays;

/** IMAGES and SHEETS at the edges; promises 32 to 38. Worked out by hand. */
public final class EdgesOfSheetsTest {
    private static final int BAD = -1, STATE = -2, NONE = -4;
    private static final int MIN = Integer.MIN_VALUE, MAX = Integer.MAX_VALUE;
    private static final int NULL = 1, INDEX = 2, CAST = 3;
    private static final String FIVE_CHILDREN = "child 0 0;child 0 0;child 0 0;child 0 0;child 0 0;";

    private EdgesOfSheetsTest() {
    }

    public static void main(String[] args) {
        imagesAreTwo();
        imagesOfNobodyAndOfFive();
        imagesAtTheEdges();
        imagesOfAFullPlan();
        imagesStayAsTheyWere();
        sheetsHaveNothingAtFirst();
        sheetsOfNoCells();
        sheetsOfForty();
        sheetsAboveForty();
        sheetsBelow0();
        aNewRowOfCells0();
        sheetsAreFour();
        cellsKeepTheirLowestBits();
        layAtTheEdges();
        readNoneToTwenty();
        readFromTheEdges();
        readTheIthThatIsBad();
        readNothingAndOfAnotherLane();
        readTheFirstMet();
        readWhatTheMachineRefuses();
        noneCountsToo();
        tornOfTheLatestThatCameToAnEnd();
        howMany();
        Due.finish();
    }

    private static void due(String what, long got, long want) {
        Due.due(what, got, want);
    }

    /** IMAGE k (0, 1): whether there was one (1, 0). BAD; STATE: there is none. */
    private static void imagesAreTwo() {
        HandLock x = Due.told("plain 1 2;");
        int[] bad = {-1, 2, 3, MIN, MAX};
        for (int k : bad) {
            due("keep(" + k + ")", x.keep(k), BAD);
            due("back(" + k + ")", x.back(k), BAD);
        }
        due("no IMAGE", x.count(1), 0);
        due("back(0) of none", x.back(0), STATE);
        due("back(1) of none", x.back(1), STATE);
        due("keep(1)", x.keep(1), 0);
        due("one IMAGE", x.count(1), 1);
        due("back(0) of none still", x.back(0), STATE);
        due("back(1)", x.back(1), 0);
        due("keep(1) again", x.keep(1), 1);
        due("one IMAGE still", x.count(1), 1);
        due("keep(0)", x.keep(0), 0);
        due("two IMAGES", x.count(1), 2);
        due("keep(0) again", x.keep(0), 1);
        due("two IMAGES still", x.count(1), 2);
        due("back takes none away", x.back(0) + x.back(1) + x.count(1), 2);
    }

    /** PEOPLE (all of them). */
    private static void imagesOfNobodyAndOfFive() {
        HandLock x = new HandLock();
        due("keep nobody", x.keep(0), 0);
        x.slack(8);
        x.plan(0);
        due("back to nobody", x.back(0), 0);
        due("back to nobody: SLACK", x.rule(1), 1);
        due("back to nobody: ACTS", x.rule(3), 0);
        HandLock y = Due.told("plain 1 2;gloved 3 4;child 5 6;master 7 8;plain 9 10;left 1;left 4;slack 0;plan 31;");
        String before = Due.picture(y).replace("|0 0 0", "|0 1 0");
        y.keep(1);
        for (int p = 0; p < 5; p++) {
            for (int what = 0; what <= 3; what++) {
                y.alter(p, what, y.one(p, what) == 0 ? 1 : 0);
            }
        }
        y.slack(9);
        y.cut(0);
        y.turn(31);
        due("back to five: TRIED", y.back(1), 0);
        Due.row("back to five:", Due.picture(y), before);
    }

    /** The greatest COUNTS, SLACK and TRIED come back; behind a text that is taken nothing does. */
    private static void imagesAtTheEdges() {
        HandLock x = Due.told("master 99 99;child 90 0;slack 9;");
        x.sheet(3, 2, 20);
        for (int i = 0; i < 20; i++) {
            x.lay(3, i, 1);
        }
        for (int i = 0; i < 50; i++) {
            x.read(3, 2, 0, 20);
        }
        due("keep", x.keep(0), 0);
        x.rest(99);
        x.slack(0);
        due("back: TRIED", x.back(0), 999);
        due("back: RIGHT", x.one(0, 1), 99);
        due("back: LEFT", x.one(0, 2), 99);
        due("back: SLACK", x.rule(1), 9);
        x.text();
        due("a text that is taken: IMAGES are gone", x.back(0), STATE);
    }

    /** IMAGE k is .. THE PLAN: full and empty. */
    private static void imagesOfAFullPlan() {
        HandLock x = Due.told("plain 0 0;plan 1 0 1 0 1 0 1 0;");
        x.keep(0);
        x.cut(0);
        x.keep(1);
        due("back to a full PLAN", x.back(0), 0);
        for (int i = 0; i < 8; i++) {
            due("back: act(" + i + ")", x.act(i), 1 - i % 2);
        }
        due("back: it is full", x.plan(0), -3);
        due("back to an empty PLAN", x.back(1), 0);
        due("back: it is empty", x.act(0), BAD);
        due("back: ACTS fit", x.plan(1), 1);
    }

    /** An IMAGE is not changed by what comes behind it, nor by a text that is refused. */
    private static void imagesStayAsTheyWere() {
        HandLock x = Due.told("plain 0 0;plain 5 0;slack 0;plan 1;");
        x.keep(0);
        x.turn(1);
        x.keep(1);
        x.turn(1);
        Due.tape(x, "$");
        x.text();
        due("back(0)", x.back(0), 0);
        due("back(0): COUNT", x.one(0, 4), 0);
        x.turn(3);
        x.turn(3);
        x.alter(0, 0, 3);
        x.plan(3);
        due("back(0) again", x.back(0), 0);
        due("back(0) again: COUNT", x.one(0, 4), 0);
        due("back(0) again: KIND", x.one(0, 0), 0);
        due("back(0) again: ACTS", x.rule(3), 1);
        due("back(1)", x.back(1), 1);
        due("back(1): COUNT", x.one(0, 4), 1);
    }

    /** or nothing (at first). */
    private static void sheetsHaveNothingAtFirst() {
        HandLock x = Due.told("child 0 0;");
        due("CELLS of nothing", x.count(3), NONE);
        for (int k = 0; k <= 3; k++) {
            due("lay: NULL", x.lay(k, 0, 1), -11);
            for (int lane = 0; lane <= 2; lane++) {
                due("read of nothing", x.read(k, lane, 0, 1), 0);
                due("read of nothing: NULL", x.torn(), NULL);
            }
        }
        due("nothing was tried", x.rule(2), 0);
    }

    /** with 0 .. CELLS. */
    private static void sheetsOfNoCells() {
        HandLock x = Due.told("child 0 0;");
        for (int lane = 0; lane <= 2; lane++) {
            due("a SHEET of no CELLS", x.sheet(0, lane, 0), 1);
            due("no CELLS", x.count(3), 0);
            due("lay: no CELL 0", x.lay(0, 0, 1), -12);
            due("lay: no CELL -1", x.lay(0, -1, 1), -12);
            due("read of no CELL", x.read(0, lane, 0, 1), 0);
            due("read of no CELL: INDEX", x.torn(), INDEX);
            due("read of no TRY", x.read(0, lane, 0, 0), 0);
            due("read of no TRY: no FAULT", x.torn(), 0);
            due("read of no CELL, another lane", x.read(0, (lane + 1) % 3, 0, 1), 0);
            due("read of no CELL, another lane: CAST", x.torn(), CAST);
        }
        due("nothing was tried", x.rule(2), 0);
    }

    /** .. to 40 CELLS. */
    private static void sheetsOfForty() {
        for (int lane = 0; lane <= 2; lane++) {
            HandLock x = Due.told(FIVE_CHILDREN);
            due("a SHEET of forty", x.sheet(0, lane, 40), 1);
            due("forty", x.count(3), 40);
            for (int i = 0; i < 40; i++) {
                due("lay: CELL " + i, x.lay(0, i, 1 + i % 31), 1);
            }
            due("lay: no CELL 40", x.lay(0, 40, 1), -12);
            due("lay: no CELL -1", x.lay(0, -1, 1), -12);
            due("the first twenty", x.read(0, lane, 0, 20), 20);
            due("the first twenty: no FAULT", x.torn(), 0);
            due("the last twenty", x.read(0, lane, 20, 20), 20);
            due("the last twenty: no FAULT", x.torn(), 0);
            due("one behind the last", x.read(0, lane, 21, 20), 19);
            due("one behind the last: INDEX", x.torn(), INDEX);
            due("the last alone", x.read(0, lane, 39, 1), 1);
            due("the last alone: no FAULT", x.torn(), 0);
            due("the last and one behind", x.read(0, lane, 39, 2), 1);
            due("the last and one behind: INDEX", x.torn(), INDEX);
            due("behind the last", x.read(0, lane, 40, 1), 0);
            due("behind the last: INDEX", x.torn(), INDEX);
            due("TRIED", x.rule(2), 20 + 20 + 19 + 1 + 1);
        }
    }

    /** BAD: also n above 40. */
    private static void sheetsAboveForty() {
        int[] above = {41, 42, 256, 65536, MAX};
        for (int n : above) {
            for (int lane = 0; lane <= 2; lane++) {
                HandLock x = new HandLock();
                due("sheet(0, " + lane + ", " + n + ")", x.sheet(0, lane, n), BAD);
                due("it is nothing still", x.count(3), NONE);
            }
        }
    }

    /** -10 - 4. SIZE (below 0). */
    private static void sheetsBelow0() {
        int[] below = {-1, -2, -40, MIN + 1, MIN};
        for (int n : below) {
            HandLock x = Due.told("child 0 0;");
            due("sheet(0, 0, " + n + ")", x.sheet(0, 0, n), -14);
            due("it is nothing still", x.count(3), NONE);
            x.sheet(0, 1, 2);
            x.lay(0, 1, 1);
            due("sheet(0, 2, " + n + ")", x.sheet(0, 2, n), -14);
            due("it has its CELLS still", x.count(3), 2);
            due("of its lane still", x.read(0, 1, 1, 1), 1);
            due("torn() is of read() alone", x.torn(), 0);
        }
    }

    /** A SHEET is a new row of CELLS 0. */
    private static void aNewRowOfCells0() {
        for (int lane = 0; lane <= 2; lane++) {
            HandLock x = Due.told("child 0 0;");
            x.sheet(0, lane, 40);
            for (int i = 0; i < 40; i++) {
                due("a CELL is 0", x.read(0, lane, i, 1), -20);
                x.lay(0, i, 1);
            }
            int other = (lane + 1) % 3;
            due("a new row of another lane", x.sheet(0, other, 40), 1);
            for (int i = 0; i < 40; i++) {
                due("a CELL is 0 anew", x.read(0, other, i, 1), -20);
            }
            x.lay(0, 9, 1);
            x.sheet(0, other, 5);
            due("a smaller row", x.lay(0, 5, 1), -12);
            x.sheet(0, other, 10);
            due("a larger row, 0 too", x.read(0, other, 9, 1), -20);
            due("the lane before is another", x.read(0, lane, 9, 1), 0);
            due("the lane before is another: CAST", x.torn(), CAST);
        }
    }

    /** SHEETS 0 to 3: each has CELLS of its own. BAD. */
    private static void sheetsAreFour() {
        HandLock x = Due.told(FIVE_CHILDREN);
        for (int k = 0; k <= 3; k++) {
            x.sheet(k, k % 3, 1 + k);
            x.lay(k, k, 1 << k);
        }
        due("SHEET 0 has one CELL", x.count(3), 1);
        for (int k = 0; k <= 3; k++) {
            due("SHEET " + k + ": its last CELL", x.read(k, k % 3, k, 2), 1);
            due("SHEET " + k + ": behind it", x.torn(), INDEX);
        }
        int[] bad = {-1, 4, 5, MIN, MAX};
        for (int k : bad) {
            due("sheet(" + k + ", 0, 1)", x.sheet(k, 0, 1), BAD);
            due("lay(" + k + ", 0, 1)", x.lay(k, 0, 1), BAD);
            due("read(" + k + ", 0, 0, 1)", x.read(k, 0, 0, 1), BAD);
        }
        int[] lanes = {-1, 3, 4, MIN, MAX};
        for (int lane : lanes) {
            due("sheet(0, " + lane + ", 1)", x.sheet(0, lane, 1), BAD);
            due("read(0, " + lane + ", 0, 1)", x.read(0, lane, 0, 1), BAD);
        }
    }

    /** CELL i of a SHEET becomes v (its lowest bits): 8, 16, 32 of them, the highest of which tells below 0. */
    private static void cellsKeepTheirLowestBits() {
        for (int lane = 0; lane <= 2; lane++) {
            int bits = 8 << lane;
            for (int some = 1; some <= 31; some += 10) {
                for (int b = 0; b <= 31; b++) {
                    keeps(lane, bits, some ^ 1 << b);
                    keeps(lane, bits, some - (1 << b));
                }
            }
            int[] wild = {0, -1, 127, 128, 129, 255, 256, 257, -127, -128, -129, -255, -256, 32767, 32768, 32769, 65535, 65536, 65537,
                -32767, -32768, -32769, -65535, -65536, MIN, MIN + 1, MAX};
            for (int v : wild) {
                keeps(lane, bits, v);
            }
        }
    }

    private static void keeps(int lane, int bits, int v) {
        HandLock x = Due.told(FIVE_CHILDREN);
        x.sheet(1, lane, 1);
        due("lay(1, 0, " + v + ")", x.lay(1, 0, v), 1);
        int kept = v << 32 - bits >> 32 - bits;
        boolean some = kept >= 1 && kept <= 31;
        due("lane " + lane + ": " + v + " is kept as " + kept, x.read(1, lane, 0, 1), some ? 1 : -20);
        due("lane " + lane + ": " + v + " is tried", x.rule(2), some ? 1 : 0);
        if (some) {
            // Who of the plain ones has turned it tells which CELL it was.
            HandLock y = Due.told("plain 0 0;plain 0 0;plain 0 0;plain 0 0;plain 0 0;");
            y.sheet(1, lane, 1);
            y.lay(1, 0, v);
            y.read(1, lane, 0, 1);
            due("lane " + lane + ": " + v + " is " + kept, y.one(Integer.numberOfTrailingZeros(kept), 4), 1);
        }
    }

    /** -10 less the FAULT: NULL, INDEX. */
    private static void layAtTheEdges() {
        HandLock x = Due.told("child 0 0;");
        due("NULL ahead of INDEX", x.lay(2, -1, 0), -11);
        x.sheet(2, 2, 3);
        due("CELL 0", x.lay(2, 0, 1), 1);
        due("CELL 2", x.lay(2, 2, 1), 1);
        int[] outside = {-1, 3, 4, 39, 40, 256, MIN, MAX};
        for (int i : outside) {
            due("lay(2, " + i + ", 1)", x.lay(2, i, 1), -12);
        }
        due("CELL 1 is 0 still", x.read(2, 2, 0, 3), -21);
        due("CELL 1", x.lay(2, 1, 1), 1);
        due("all three", x.read(2, 2, 0, 3), 3);
        due("torn() is of read() alone", x.torn(), 0);
    }

    private static HandLock withCells(int... cells) {
        HandLock x = Due.told("plain 0 0;plain 0 0;slack 0;");
        x.sheet(1, 1, cells.length);
        for (int i = 0; i < cells.length; i++) {
            x.lay(1, i, cells[i]);
        }
        return x;
    }

    private static int[] threes(int n) {
        int[] cells = new int[n];
        Arrays.fill(cells, 3);
        return cells;
    }

    /** n (0 to 20) TRIES. BAD. */
    private static void readNoneToTwenty() {
        for (int n = 0; n <= 20; n++) {
            HandLock x = withCells(threes(21));
            due("read " + n, x.read(1, 1, 0, n), n);
            due("read " + n + ": TRIED", x.rule(2), n);
            due("read " + n + ": COUNTS", x.count(4), n);
            due("read " + n + ": no FAULT", x.torn(), 0);
        }
        HandLock x = withCells(threes(40));
        int[] bad = {-1, -2, 21, 22, 40, MIN, MAX};
        for (int n : bad) {
            due("read(1, 1, 0, " + n + ")", x.read(1, 1, 0, n), BAD);
        }
        due("what is BAD is not tried", x.rule(2), 0);
        // n 0: nothing is read, from wherever.
        int[] from = {0, -1, 40, MIN, MAX};
        for (int f : from) {
            due("read none", x.read(1, 1, f, 0), 0);
            due("read none: no FAULT", x.torn(), 0);
        }
    }

    /** from CELL f on: any number; outside of it is INDEX. */
    private static void readFromTheEdges() {
        HandLock x = withCells(3, 1, 2);
        int[] outside = {-1, -2, -20, 3, 4, 40, MIN, MIN + 19, MAX, MAX - 19};
        for (int f : outside) {
            int[] many = {1, 2, 20};
            for (int n : many) {
                due("read(1, 1, " + f + ", " + n + ")", x.read(1, 1, f, n), 0);
                due("read(1, 1, " + f + ", " + n + "): INDEX", x.torn(), INDEX);
            }
        }
        due("nothing was tried", x.rule(2), 0);
        due("from the last", x.read(1, 1, 2, 1), 1);
        due("from the last: who", x.one(1, 4), 1);
        due("from 0", x.read(1, 1, 0, 1), 1);
        due("from 0: who", x.one(0, 4), 1);
    }

    /** -20 less i: the i-th is BAD: then none was. */
    private static void readTheIthThatIsBad() {
        int[] bad = {0, 4, 5, -1, 32, 127, 128, 32767, -32768};
        for (int cell : bad) {
            for (int at = 0; at < 20; at += at == 0 || at == 18 ? 1 : 17) {
                int[] cells = threes(20);
                cells[at] = cell;
                HandLock x = withCells(cells);
                due("the " + at + "-th is " + cell, x.read(1, 1, 0, 20), -20 - at);
                due("none was tried", x.rule(2), 0);
                due("nobody's COUNT is more", x.count(4), 0);
                due("those ahead of it", x.read(1, 1, 0, at), at);
                due("those ahead of it: TRIED", x.rule(2), at);
            }
        }
        // i is counted from f on.
        HandLock x = withCells(3, 3, 3, 0, 3);
        due("from 1 on", x.read(1, 1, 1, 4), -22);
        due("from 3 on", x.read(1, 1, 3, 1), -20);
        due("from 4 on", x.read(1, 1, 4, 1), 1);
        HandLock nobody = new HandLock();
        nobody.sheet(0, 0, 1);
        nobody.lay(0, 0, 1);
        due("there is nobody", nobody.read(0, 0, 0, 1), -20);
    }

    /** NULL (nothing), CAST (another lane). */
    private static void readNothingAndOfAnotherLane() {
        for (int lane = 0; lane <= 2; lane++) {
            HandLock x = Due.told("child 0 0;");
            x.sheet(2, lane, 2);
            x.lay(2, 0, 1);
            x.lay(2, 1, 1);
            for (int as = 0; as <= 2; as++) {
                due("lane " + lane + " as of " + as, x.read(2, as, 0, 2), as == lane ? 2 : 0);
                due("lane " + lane + " as of " + as + ": FAULT", x.torn(), as == lane ? 0 : CAST);
                due("nothing as of " + as, x.read(3, as, 0, 2), 0);
                due("nothing as of " + as + ": FAULT", x.torn(), NULL);
            }
            due("TRIED by its own lane alone", x.rule(2), 2);
        }
    }

    /** the first met. */
    private static void readTheFirstMet() {
        HandLock x = withCells(3, 0, 3);
        due("BAD ahead of INDEX", x.read(1, 1, 1, 20), -20);
        due("BAD ahead of INDEX: no read() came to an end", x.torn(), 0);
        due("INDEX ahead of BAD", x.read(1, 1, -1, 3), 0);
        due("INDEX ahead of BAD: FAULT", x.torn(), INDEX);
        due("CAST ahead of BAD", x.read(1, 2, 1, 1), 0);
        due("CAST ahead of BAD: FAULT", x.torn(), CAST);
        due("CAST ahead of INDEX", x.read(1, 0, 99, 1), 0);
        due("CAST ahead of INDEX: FAULT", x.torn(), CAST);
        due("NULL ahead of INDEX", x.read(0, 0, -1, 1), 0);
        due("NULL ahead of INDEX: FAULT", x.torn(), NULL);
        due("of two that are BAD the first", withCells(3, 0, 4).read(1, 1, 0, 3), -21);
        due("nothing was tried", x.rule(2), 0);
    }

    /** What the machine refuses: those ahead were. */
    private static void readWhatTheMachineRefuses() {
        for (int size = 0; size <= 20; size++) {
            HandLock x = withCells(threes(size));
            due(size + " CELLS, 20 TRIES", x.read(1, 1, 0, 20), size);
            due(size + " CELLS, 20 TRIES: FAULT", x.torn(), size < 20 ? INDEX : 0);
            due(size + " CELLS: TRIED", x.rule(2), size);
            due(size + " CELLS: COUNTS", x.count(4), size);
        }
    }

    /** how many were tried (NONE counts, too). */
    private static void noneCountsToo() {
        HandLock x = withCells(1, 1, 1, 3);
        due("read: all four", x.read(1, 1, 0, 4), 4);
        due("0 was LET IN once", x.one(0, 4), 1);
        due("1 was, by the last", x.one(1, 4), 1);
        due("TRIED", x.rule(2), 4);
    }

    /** The FAULT of the latest read() that came to an end; 0. */
    private static void tornOfTheLatestThatCameToAnEnd() {
        HandLock x = withCells(3, 0);
        due("no read() yet", x.torn(), 0);
        x.read(1, 2, 0, 1);
        due("CAST", x.torn(), CAST);
        x.read(1, 1, 0, 2);
        due("one with a BAD TRY is no other", x.torn(), CAST);
        x.read(4, 1, 0, 1);
        x.read(1, 3, 0, 1);
        x.read(1, 1, 0, 21);
        x.read(1, 1, 0, -1);
        due("a BAD one is no other", x.torn(), CAST);
        x.lay(1, 9, 1);
        x.lay(0, 0, 1);
        x.sheet(1, 1, -1);
        due("lay and sheet are none", x.torn(), CAST);
        x.keep(0);
        x.back(0);
        x.text();
        due("a text is none", x.torn(), CAST);
        x.read(1, 1, 2, 1);
        due("INDEX", x.torn(), INDEX);
        x.read(0, 1, 0, 1);
        due("NULL", x.torn(), NULL);
        x.read(0, 1, 0, 0);
        due("0 by one of no TRY", x.torn(), 0);
        HandLock y = withCells(3, 3);
        y.read(1, 1, 1, 2);
        due("INDEX behind one that was tried", y.torn(), INDEX);
        y.read(1, 1, 0, 2);
        due("0 by one that is whole", y.torn(), 0);
    }

    /** 0 SEEN, 1 IMAGES, 2 bytes on THE TAPE, 3 CELLS of SHEET 0 (NONE: nothing), 4 all COUNTS, 5 all MARKS. BAD. */
    private static void howMany() {
        HandLock x = Due.told("master 99 0;master 99 0;master 99 0;master 99 0;master 0 99;left 4;");
        int[] first = {0, 0, 0, NONE, 495, 20, BAD};
        for (int what = 0; what < first.length; what++) {
            due("at first: count(" + what + ")", x.count(what), first[what]);
        }
        for (int n = 1; n <= 6; n++) {
            x.see(0, NONE);
            due("SEEN", x.count(0), n);
        }
        for (int n = 1; n <= 160; n++) {
            x.feed(32);
        }
        x.keep(0);
        x.keep(1);
        x.sheet(1, 0, 7);
        due("SHEET 1 is not SHEET 0", x.count(3), NONE);
        x.sheet(0, 0, 40);
        int[] last = {6, 2, 160, 40, 495, 20, BAD};
        for (int what = 0; what < last.length; what++) {
            due("at last: count(" + what + ")", x.count(what), last[what]);
        }
        x.sheet(0, 0, 0);
        due("no CELLS", x.count(3), 0);
        due("count(-1)", x.count(-1), BAD);
        due("count(MIN)", x.count(MIN), BAD);
        due("count(MAX)", x.count(MAX), BAD);
        due("children have no MARKS", Due.told(FIVE_CHILDREN).count(5), 0);
    }
}
