/**
 * A lock that has some of everything, and a look at all of it, down to IMAGES, CELLS and bytes of THE TAPE:
 * what a call changes shows, wherever it does. Both together stay below 512 calls.
 */
final class Rich {
    static final int PEOPLE = 5, ACTS = 6, SEEN = 2, TAPE = 8;
    /** SHEET 0 has BYTES, 1 SHORTS, 2 INTS; 3 is nothing. */
    static final int[] CELLS = {3, 2, 0};
    private static final String TEXT =
        "plain 3 0;gloved 1 2;child 0 5;master 4 4;plain 2 1;left 0;left 4;slack 2;plan 3 24 0 8 31;";

    private Rich() {
    }

    static HandLock lock() {
        HandLock x = Due.told(TEXT);
        x.turn(2);
        x.keep(0);
        x.slack(4);
        x.turn(8);
        x.alter(2, 0, 1);
        x.cut(4);
        x.keep(1);
        x.slack(3);
        x.plan(6);
        x.plan(9);
        x.turn(31);
        x.see(0, 0);
        x.see(2, HandLock.NONE);
        x.sheet(0, 0, CELLS[0]);
        x.lay(0, 0, 1);
        x.lay(0, 1, 6);
        x.lay(0, 2, 31);
        x.sheet(1, 1, CELLS[1]);
        x.lay(1, 0, 2);
        x.lay(1, 1, 9);
        x.sheet(2, 2, CELLS[2]);
        x.read(0, 1, 0, 1);
        Due.tape(x, "$");
        x.text();
        Due.tape(x, "slack 7;");
        return x;
    }

    /** All that the lock holds; asking uses it up. */
    static String all(HandLock x) {
        return Due.picture(x) + held(x) + sheets(x) + tape(x);
    }

    /** What is SEEN and IMAGES, which text() leaves when it refuses. */
    static String held(HandLock x) {
        StringBuilder all = new StringBuilder(" SEEN");
        for (int n = x.count(0); n >= 0; n--) {
            x.forget(n);
            all.append(' ').append(x.slacks()).append(' ').append(x.counts(0, 0)).append(' ').append(x.counts(1, 2));
        }
        for (int k = 0; k <= 1; k++) {
            all.append(" IMAGE ").append(x.back(k)).append(": ").append(Due.standing(x));
        }
        return all.toString();
    }

    private static String sheets(HandLock x) {
        StringBuilder all = new StringBuilder(" SHEETS");
        for (int k = 0; k <= 3; k++) {
            all.append(" | ").append(x.read(k, k % 3, 0, 20)).append(' ').append(x.torn());
            all.append(' ').append(x.rule(2)).append(' ').append(x.count(4)).append(' ').append(x.rule(6));
        }
        return all.toString();
    }

    private static String tape(HandLock x) {
        return " TAPE " + x.count(2) + ' ' + x.text() + ' ' + x.fault() + ' ' + x.rule(1);
    }
}
