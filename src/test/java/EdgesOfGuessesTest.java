/** Who stays away, what is SEEN and what it tells, tries by a seed, at the edges; promises 24 to 31. Worked out by hand. */
public final class EdgesOfGuessesTest {
    private static final int BAD = -1, STATE = -2, FULL = -3, NONE = -4;
    private static final int MIN = Integer.MIN_VALUE, MAX = Integer.MAX_VALUE;
    private static final String FIVE_CHILDREN = "child 0 0;child 0 0;child 0 0;child 0 0;child 0 0;";

    private EdgesOfGuessesTest() {
    }

    public static void main(String[] args) {
        fractionsAreInLowestTerms();
        zeroIsZeroByOne();
        nobodyStaysAwayAndAllDo();
        oddsOfFive();
        whoStaysAwayIsCountedWithTheLeast();
        aTryThatNobodyComesToIsNone();
        sixAreSeen();
        forgetToTheEdges();
        seenByARestAndBehindThePlan();
        countsFrom0To20();
        countsOfNothingSeen();
        countsThatAreNot();
        countsByTheHandInUse();
        slacksFrom0To9();
        lookAtTheFirstAndTheLast();
        lookAtNone();
        lookAtTheWorst();
        lookWithCountsFrom0To20();
        aSeedThatWrapsAround();
        driftsFrom1To60();
        driftOfOneAndOfFive();
        Due.finish();
    }

    private static void due(String what, long got, long want) {
        Due.due(what, got, want);
    }

    private static void means(HandLock x, int v, long above, long below) {
        due("mean(" + v + ", 0)", x.mean(v, 0), above);
        due("mean(" + v + ", 1)", x.mean(v, 1), below);
    }

    private static void lucks(HandLock x, int v, int p, long above, long below) {
        due("luck(" + v + ", " + p + ", 0)", x.luck(v, p, 0), above);
        due("luck(" + v + ", " + p + ", 1)", x.luck(v, p, 1), below);
    }

    /** Fractions are in lowest terms, the denominator above 0. */
    private static void fractionsAreInLowestTerms() {
        HandLock x = Due.told("plain 0 0;plan 1;");
        long[][] alone = {{1, 1}, {9, 10}, {4, 5}, {7, 10}, {3, 5}, {1, 2}, {2, 5}, {3, 10}, {1, 5}, {1, 10}, {0, 1}};
        for (int v = 0; v <= 10; v++) {
            means(x, v, alone[v][0], alone[v][1]);
            lucks(x, v, 0, alone[v][0], alone[v][1]);
        }
        // Both stay away by v times v out of a hundred.
        HandLock y = Due.told("child 0 0;child 0 0;plan 3;");
        long[][] either = {{1, 1}, {99, 100}, {24, 25}, {91, 100}, {21, 25}, {3, 4}, {16, 25}, {51, 100}, {9, 25}, {19, 100}, {0, 1}};
        for (int v = 0; v <= 10; v++) {
            means(y, v, either[v][0], either[v][1]);
        }
    }

    /** 0 is 0 by 1. */
    private static void zeroIsZeroByOne() {
        means(new HandLock(), 0, 0, 1);
        means(new HandLock(), 10, 0, 1);
        HandLock x = Due.told("plain 9 0;child 0 0;slack 0;plan 1;");
        for (int v = 0; v <= 10; v++) {
            means(x, v, 0, 1);
            lucks(x, v, 0, 0, 1);
            lucks(x, v, 1, 0, 1);
        }
    }

    /** by v out of ten (0 to 10). */
    private static void nobodyStaysAwayAndAllDo() {
        HandLock x = Due.told("plain 0 0;gloved 1 0;child 0 0;slack 1;plan 7 2 0 4 2 3;");
        // 0 (to 1), 1 (to 3), a REST, 2, nobody (1 is at 2), 0.
        means(x, 0, 4, 1);
        for (int p = 0; p < 3; p++) {
            lucks(x, 0, p, 1, 1);
            lucks(x, 10, p, 0, 1);
        }
        means(x, 10, 0, 1);
        due("v -1", x.mean(-1, 0), BAD);
        due("v 11", x.mean(11, 0), BAD);
    }

    /** Each ONE stays away by itself: five of them. */
    private static void oddsOfFive() {
        HandLock x = Due.told(FIVE_CHILDREN + "plan 31;");
        // The fifth is LET IN only if all ahead of it stay away: 1/10000 times 9/10.
        lucks(x, 1, 4, 9, 100000);
        lucks(x, 9, 4, 6561, 100000);
        lucks(x, 9, 0, 1, 10);
        lucks(x, 5, 4, 1, 32);
        lucks(x, 5, 0, 1, 2);
        means(x, 5, 31, 32);
        means(x, 1, 99999, 100000);
        means(x, 9, 40951, 100000);
        HandLock y = Due.told(FIVE_CHILDREN + "plan 1 2 4 8 16 31 31 31;");
        // Five times 1/2, and three times 31/32: 80/32 and 93/32.
        means(y, 5, 173, 32);
        means(y, 0, 8, 1);
    }

    /** the least COUNT of all is with them. */
    private static void whoStaysAwayIsCountedWithTheLeast() {
        HandLock x = Due.told("plain 3 0;plain 0 0;slack 2;plan 1;");
        means(x, 5, 0, 1);
        lucks(x, 5, 0, 0, 1);
        x.slack(3);
        means(x, 5, 1, 2);
        lucks(x, 5, 0, 1, 2);
        lucks(x, 5, 1, 0, 1);
    }

    /** from all TRIES of THE PLAN; one that nobody comes to is none. */
    private static void aTryThatNobodyComesToIsNone() {
        // If 0 stays away its COUNT is not more, and 1 is shut out then.
        HandLock x = Due.told("plain 0 0;child 2 0;slack 0;plan 1 1 2;");
        // Both come: 3. 0 alone: 2. 1 alone: none. Nobody: none.
        means(x, 5, 5, 4);
        lucks(x, 5, 1, 1, 4);
        lucks(x, 5, 0, 1, 2);
        // RESTS are for all: 1 is at 0 then.
        HandLock y = Due.told("child 0 0;child 2 0;slack 0;plan 0 0 2;");
        means(y, 3, 7, 10);
        lucks(y, 3, 1, 7, 10);
    }

    /** SEEN (6): how many are. BAD; FULL. */
    private static void sixAreSeen() {
        HandLock x = Due.told(FIVE_CHILDREN + "plan 31 0;");
        due("nothing is SEEN", x.count(0), 0);
        int[][] seen = {{0, 0}, {1, NONE}, {7, NONE}, {0, 4}, {7, 0}, {7, 4}};
        for (int n = 0; n < 6; n++) {
            due("SEEN: " + (n + 1), x.see(seen[n][0], seen[n][1]), n + 1);
            due("SEEN: " + (n + 1) + " are", x.count(0), n + 1);
        }
        due("a seventh", x.see(0, 0), FULL);
        due("a seventh, nobody", x.see(0, NONE), FULL);
        due("six are", x.count(0), 6);
        due("one less", x.forget(5), 6);
        due("a sixth again", x.see(0, 0), 6);
        due("a seventh again", x.see(0, 0), FULL);
        int[] acts = {-1, 8, 9, MIN, MAX};
        for (int i : acts) {
            due("see(" + i + ", 0)", Due.told(FIVE_CHILDREN).see(i, 0), BAD);
        }
        int[] people = {-1, -2, -3, -5, 5, 6, MIN, MAX};
        for (int p : people) {
            due("see(0, " + p + ")", Due.told(FIVE_CHILDREN).see(0, p), BAD);
        }
    }

    /** SEEN are the first n alone: how many there were. */
    private static void forgetToTheEdges() {
        HandLock x = Due.told("child 3 0;child 0 0;slack 0;plan 1;");
        due("forget(0) of none", x.forget(0), 0);
        due("forget(1) of none", x.forget(1), BAD);
        due("forget(-1) of none", x.forget(-1), BAD);
        x.see(0, NONE);
        for (int n = 2; n <= 6; n++) {
            x.see(0, 0);
        }
        due("by no SLACK both", x.slacks(), 0);
        due("forget(7)", x.forget(7), BAD);
        due("forget(6)", x.forget(6), 6);
        due("forget(2)", x.forget(2), 6);
        due("both are still", x.slacks(), 0);
        due("forget(3) of two", x.forget(3), BAD);
        due("forget(1)", x.forget(1), 2);
        due("the first is still", x.slacks(), 7);
        due("forget(0)", x.forget(0), 1);
        due("none is", x.slacks(), 1023);
        due("see anew", x.see(0, 0), 1);
        due("the new one alone", x.slacks(), 1016);
    }

    /** by a REST, behind THE PLAN's last one: nobody. */
    private static void seenByARestAndBehindThePlan() {
        HandLock x = Due.told("child 0 0;plan 0 1;");
        for (int i = 0; i <= 7; i++) {
            x.forget(0);
            x.see(i, NONE);
            due("nobody by ACT " + i, x.slacks(), i == 1 ? 0 : 1023);
            due("nobody by ACT " + i + ": counts", x.counts(0, 0), i == 1 ? 0 : 21);
            x.forget(0);
            x.see(i, 0);
            due("somebody by ACT " + i, x.slacks(), i == 1 ? 1023 : 0);
            due("somebody by ACT " + i + ": counts", x.counts(0, 0), i == 1 ? 21 : 0);
        }
        // What is SEEN is told of THE PLAN as it is when it is asked.
        x.forget(0);
        x.see(2, 0);
        due("behind its last ACT", x.slacks(), 0);
        x.plan(1);
        due("when there is such an ACT", x.slacks(), 1023);
        x.cut(2);
        due("when it is cut", x.slacks(), 0);
    }

    private static void countsAre(String what, HandLock x, int p, int many, int least, int greatest) {
        due(what + ": how many", x.counts(p, 0), many);
        due(what + ": the least", x.counts(p, 1), least);
        due(what + ": the greatest", x.counts(p, 2), greatest);
    }

    /** COUNTS (0 to 20) that a ONE may have had. */
    private static void countsFrom0To20() {
        HandLock x = Due.told("plain 0 0;plain 0 0;slack 9;plan 3;");
        x.see(0, 1);
        // 0 is not LET IN: it is above 1.
        for (int other = 0; other <= 25; other++) {
            x.alter(1, 1, other);
            int many = Math.max(0, 20 - other);
            countsAre("above " + other, x, 0, many, many == 0 ? NONE : other + 1, many == 0 ? NONE : 20);
        }
        x.alter(1, 1, 3);
        x.forget(0);
        x.see(0, 0);
        // 0 is LET IN: it is not above 1.
        for (int other = 0; other <= 25; other++) {
            x.alter(1, 1, other);
            countsAre("not above " + other, x, 0, Math.min(21, other + 1), 0, Math.min(20, other));
        }
        // 1 is not below 0.
        for (int other = 0; other <= 25; other++) {
            x.alter(0, 1, other);
            int many = Math.max(0, 21 - other);
            countsAre("not below " + other, x, 1, many, many == 0 ? NONE : other, many == 0 ? NONE : 20);
        }
    }

    /** COUNTS (0 to 20), whatever the COUNT is now. */
    private static void countsOfNothingSeen() {
        HandLock x = Due.told("plain 99 0;child 50 0;plan 3;");
        countsAre("nothing SEEN", x, 0, 21, 0, 20);
        countsAre("nothing SEEN of the other", x, 1, 21, 0, 20);
        due("its COUNT is as it was", x.one(0, 4), 99);
    }

    /** BAD; NONE (1, 2): there are none. */
    private static void countsThatAreNot() {
        HandLock x = Due.told("child 0 0;child 0 0;plan 0;");
        x.see(0, 1);
        countsAre("none", x, 0, 0, NONE, NONE);
        due("what 3", x.counts(0, 3), BAD);
        due("what -1", x.counts(0, -1), BAD);
        due("no such ONE", x.counts(2, 1), BAD);
        due("no such ONE below", x.counts(-1, 1), BAD);
        HandLock y = Due.told("child 0 0;child 10 0;child 10 0;slack 5;plan 2 1;");
        y.see(0, 1);
        y.see(1, 0);
        // 1 is LET IN: 0 is at 5 or more; 0 is LET IN: it is at 15 or less.
        countsAre("between", y, 0, 11, 5, 15);
        y.forget(1);
        y.see(1, NONE);
        countsAre("beyond", y, 0, 5, 16, 20);
    }

    /** COUNT: that of the HAND it uses; all else as it is. */
    private static void countsByTheHandInUse() {
        HandLock x = Due.told("child 0 77;child 4 0;left 0;slack 0;plan 3;");
        x.see(0, 0);
        countsAre("by the left", x, 0, 5, 0, 4);
        x.alter(0, 3, 1);
        due("LEFT is as it was", x.one(0, 2), 77);
        due("RIGHT is as it was", x.one(0, 1), 0);
    }

    /** SLACKS (0 to 9; bits). */
    private static void slacksFrom0To9() {
        HandLock x = Due.told("child 0 0;child 0 0;slack 3;plan 1;");
        for (int above = 0; above <= 11; above++) {
            x.alter(0, 1, above);
            x.forget(0);
            x.see(0, 0);
            due("LET IN at " + above, x.slacks(), 1023 >> above << above);
            x.forget(0);
            x.see(0, NONE);
            due("shut out at " + above, x.slacks(), (1 << Math.min(10, above)) - 1);
        }
        due("SLACK is as it was", x.rule(1), 3);
    }

    private static void looks(String what, HandLock x, int p, int act, int left) {
        due(what + ": the ACT", x.look(p, 0), act);
        due(what + ": how many", x.look(p, 1), left);
    }

    /** The ACT of THE PLAN to look at next .. the first. */
    private static void lookAtTheFirstAndTheLast() {
        // 0 is LET IN up to 6 (7 COUNTS), shut out above (14).
        HandLock x = Due.told("child 0 0;child 0 0;slack 6;plan 1 1 1 1 1 1 1 1;");
        looks("all alike: the first", x, 0, 0, 14);
        x = Due.told("child 0 0;child 0 0;slack 6;plan 2 2 2 2 2 2 2 1;");
        // 1 is at 0: it is LET IN whatever 0 has had, so its TRIES tell nothing.
        looks("the last", x, 0, 7, 14);
        x.cut(7);
        looks("no other", x, 0, NONE, NONE);
        // The fifth is LET IN up to 8 (9 COUNTS), the first from 9 on (12).
        x = Due.told("child 9 0;child 9 0;child 9 0;child 9 0;child 0 0;slack 0;plan 31;");
        looks("the fifth ONE", x, 4, 0, 12);
    }

    /** fewer than now; NONE: none. */
    private static void lookAtNone() {
        HandLock x = Due.told("plain 0 0;plain 0 0;slack 9;");
        looks("an empty PLAN", x, 0, NONE, NONE);
        x.plan(0);
        x.plan(0);
        looks("RESTS", x, 0, NONE, NONE);
        x.plan(3);
        // Behind two RESTS 0 .. 2 are 0, as 1 is: 0 is LET IN then (3 COUNTS), else 1 (18).
        looks("behind RESTS", x, 0, 2, 18);
        x.see(2, 0);
        looks("SEEN already", x, 0, NONE, NONE);
        x.forget(0);
        x.see(0, 1);
        looks("by no COUNT: none are left", x, 0, NONE, NONE);
        due("look: no such ONE", x.look(2, 0), BAD);
        due("look: what 2", x.look(0, 2), BAD);
    }

    /** fewest are left at the worst (by who is LET IN). */
    private static void lookAtTheWorst() {
        // By the TRY of 0 and 1: 0 up to 9 (10), 1 above (11). Of 0 alone: up to 14 (15), nobody above (6).
        HandLock x = Due.told("child 0 0;child 9 0;child 9 0;slack 5;plan 1 3;");
        looks("the second is better", x, 0, 1, 11);
        // 0 is not up to 9: eleven are left, 10 .. 20, of which 10 .. 14 are LET IN alone.
        x.see(1, 1);
        looks("then the first", x, 0, 0, 6);
        x.see(0, 0);
        looks("then none: five are left", x, 0, NONE, NONE);
        due("five are left", x.counts(0, 0), 5);
    }

    /** of COUNTS (0 to 20): both edges are among them. */
    private static void lookWithCountsFrom0To20() {
        HandLock x = Due.told("child 0 0;child 0 0;slack 0;plan 3;");
        // 0 is LET IN up to 1's COUNT, 1 else.
        int[] other = {0, 1, 9, 10, 11, 19};
        int[] left = {20, 19, 11, 11, 12, 20};
        for (int i = 0; i < other.length; i++) {
            x.alter(1, 1, other[i]);
            looks("1 at " + other[i], x, 0, 0, left[i]);
        }
        x.alter(1, 1, 20);
        looks("1 at 20: 0 is LET IN by all", x, 0, NONE, NONE);
        x.alter(1, 1, 99);
        looks("1 at 99: 0 is LET IN by all", x, 0, NONE, NONE);
    }

    private static long bits(long seed) {
        return seed >> 16 & 32767;
    }

    /** The same by turn(), the seed by whole numbers that are cut to 32 bits. */
    private static void driftIs(String text, int seed, int n) {
        HandLock x = Due.told(text);
        int letIn = 0;
        long state = seed & 0xFFFFFFFFL;
        long ways = (1L << x.rule(0)) - 1;
        HandLock y = Due.told(text);
        for (int i = 0; i < n; i++) {
            state = (state * 1103515245L + 12345L) & 0xFFFFFFFFL;
            letIn += y.turn((int) (bits(state) % ways + 1)) == NONE ? 0 : 1;
        }
        due("drift(" + seed + ", " + n + ", 0)", x.drift(seed, n, 0), letIn);
        due("drift(" + seed + ", " + n + ", 1)", x.drift(seed, n, 1), y.runs(3));
        due("drift: TRIED", x.rule(2), 0);
    }

    /** the seed becomes seed times 1103515245 and 12345; bits 16 to 30 of it. */
    private static void aSeedThatWrapsAround() {
        int[] seeds = {0, 1, 2, 7, -1, -2, -3, 65535, 65536, 1 << 30, MAX - 1, MAX, MIN, MIN + 1, 1103515245, 12345, -12345};
        String[] texts = {"plain 0 0;gloved 0 0;slack 1;", "plain 3 0;master 0 0;gloved 1 0;slack 0;",
            "plain 3 0;gloved 1 2;child 0 5;master 4 4;plain 2 1;left 0;left 4;slack 2;"};
        for (int seed : seeds) {
            for (String text : texts) {
                driftIs(text, seed, 1);
                driftIs(text, seed, 2);
                driftIs(text, seed, 59);
                driftIs(text, seed, 60);
            }
        }
        // By hand, of 0 and 1: 12345, bits 16 to 30 are 0: the TRY is 1. By -1: -1103502900 is 3191464396, bits 15929, modulo 3: 2.
        HandLock x = Due.told("child 0 0;plain 5 0;slack 0;");
        due("by 0: 0 TRIES and is LET IN", x.drift(0, 1, 0), 1);
        due("by -1: both", x.drift(-1, 1, 0), 1);
        HandLock y = Due.told("plain 5 0;child 0 0;slack 0;");
        due("by 0: 0 TRIES and is shut out", y.drift(0, 1, 0), 0);
        // Bit 31 is none of them: by MIN as by 0.
        due("by MIN as by 0", y.drift(MIN, 1, 0), 0);
        due("by MIN as by 0, all the way", y.drift(MIN, 60, 0), y.drift(0, 60, 0));
    }

    /** n TRIES (1 to 60). */
    private static void driftsFrom1To60() {
        HandLock x = Due.told("plain 0 0;slack 0;");
        for (int n = 1; n <= 60; n++) {
            due("drift of one: LET IN", x.drift(n, n, 0), n);
            due("drift of one: the greatest", x.drift(n, n, 1), n);
        }
        int[] bad = {0, -1, 61, 62, MIN, MAX};
        for (int n : bad) {
            due("drift(1, " + n + ", 0)", x.drift(1, n, 0), BAD);
            due("drift(1, " + n + ", 1)", x.drift(1, n, 1), BAD);
        }
        due("drift: what 2", x.drift(1, 1, 2), BAD);
        due("drift: what -1", x.drift(1, 1, -1), BAD);
        due("drift: COUNT is as it was", x.one(0, 4), 0);
    }

    /** modulo one less than 2 to the power of how many PEOPLE there are, and 1; STATE: there is nobody. */
    private static void driftOfOneAndOfFive() {
        StringBuilder text = new StringBuilder();
        due("nobody", new HandLock().drift(5, 5, 0), STATE);
        due("nobody, the greatest", new HandLock().drift(5, 5, 1), STATE);
        for (int people = 1; people <= 5; people++) {
            text.append("plain ").append(9 - people).append(" 0;");
            driftIs(text + "slack 0;", 20261118, 60);
            driftIs(text + "slack 9;", -20261118, 60);
        }
        due("nobody behind a text", behindAnEmptyText().drift(5, 5, 0), STATE);
    }

    private static HandLock behindAnEmptyText() {
        HandLock x = Due.told("plain 1 1;");
        x.text();
        return x;
    }
}
