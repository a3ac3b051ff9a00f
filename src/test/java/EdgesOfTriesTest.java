/** PEOPLE, a TRY, a REST, THE PLAN, and what is asked of them, at the edges; promises 1 and 6 to 23. Worked out by hand. */
public final class EdgesOfTriesTest {
    private static final int BAD = -1, STATE = -2, FULL = -3, NONE = -4;
    private static final String FIVE_CHILDREN = "child 0 0;child 0 0;child 0 0;child 0 0;child 0 0;";
    private static final String FIVE_MASTERS = "master 4 0;master 3 0;master 2 0;master 1 0;master 0 0;";

    private EdgesOfTriesTest() {
    }

    public static void main(String[] args) {
        nobodyIsThere();
        nobodyAndAPlanOfRests();
        fiveOnesAndASixth();
        marksByKind();
        countsStopAt99();
        countsStopAt99InThePlan();
        countsStopAt0();
        countsStopAt0InThePlan();
        noMoreThanTheLeastAndSlack();
        theLeastOfAllPeople();
        ofSeveralTheFirst();
        someOnesThatThereAre();
        triedStopsAt999();
        triedIsOfTriesAlone();
        restsFrom0To99();
        alterToTheEdges();
        anEmptyPlan();
        aFullPlan();
        cutToTheEdges();
        theFirstTryThatLetsNobodyIn();
        roundsFrom1To60();
        anOrderOfOneAndOfFive();
        anOrderOfSeveral();
        awaitNoneToFour();
        awaitByNoFour();
        handsOfNoneAndOfAll();
        cleanTheFirstAndTheLast();
        tradeTheFirstAndTheLast();
        looseFrom0To9();
        Due.finish();
    }

    private static void due(String what, long got, long want) {
        Due.due(what, got, want);
    }

    private static void answers(String what, HandLock x, String name, int[] want) {
        for (int i = 0; i < want.length; i++) {
            due(what + ": " + Ask.label(name, i), Ask.ask(x, name, i), want[i]);
        }
    }

    /** Nobody; SHEETS have nothing. */
    private static void nobodyIsThere() {
        HandLock x = new HandLock();
        answers("nobody", x, "rule", new int[] {0, 1, 0, 0, 0, NONE, 0, BAD});
        answers("nobody", x, "count", new int[] {0, 0, 0, NONE, 0, 0, BAD});
        answers("nobody", x, "runs", new int[] {0, 0, NONE, NONE, BAD});
        answers("nobody", x, "hands", new int[] {0, 0, BAD});
        answers("nobody", x, "clean", new int[] {NONE, NONE, BAD});
        answers("nobody", x, "trade", new int[] {NONE, NONE, BAD});
        answers("nobody", x, "act", new int[] {BAD, BAD});
        answers("nobody", x, "ahead", new int[] {BAD, BAD});
        answers("nobody", x, "turn", new int[] {BAD, BAD, BAD, BAD});
        answers("nobody", x, "rest", new int[] {NONE, NONE});
        due("nobody: rest(99)", x.rest(99), NONE);
        due("nobody: one(0, 0)", x.one(0, 0), BAD);
        due("nobody: alter(0, 0, 0)", x.alter(0, 0, 0), BAD);
        due("nobody: round()", x.round(), NONE);
        due("nobody: order(0, 0)", x.order(0, 0), BAD);
        due("nobody: order(1, 0)", x.order(1, 0), BAD);
        due("nobody: await(0, 0)", x.await(0, 0), BAD);
        due("nobody: loose()", x.loose(), 0);
        due("nobody: mean(5, 0)", x.mean(5, 0), 0);
        due("nobody: mean(5, 1)", x.mean(5, 1), 1);
        due("nobody: luck(5, 0, 0)", x.luck(5, 0, 0), BAD);
        due("nobody: counts(0, 0)", x.counts(0, 0), BAD);
        due("nobody: slacks()", x.slacks(), 1023);
        due("nobody: look(0, 0)", x.look(0, 0), BAD);
        due("nobody: drift(1, 1, 0)", x.drift(1, 1, 0), STATE);
        due("nobody: cut(0)", x.cut(0), 0);
        due("nobody: forget(0)", x.forget(0), 0);
        due("nobody: end(0)", x.end(0), 0);
        due("nobody: plan(1)", x.plan(1), BAD);
        due("nobody: see(0, 0)", x.see(0, 0), BAD);
        due("nobody: see(0, NONE)", x.see(0, NONE), 1);
        due("nobody: slacks() then", x.slacks(), 1023);
        due("nobody: fault()", x.fault(), 0);
        due("nobody: torn()", x.torn(), 0);
        due("nobody: back(0)", x.back(0), STATE);
        due("nobody: back(1)", x.back(1), STATE);
        due("nobody: text()", x.text(), 0);
    }

    /** 0: a REST: an ACT that needs no ONE. */
    private static void nobodyAndAPlanOfRests() {
        HandLock x = new HandLock();
        for (int n = 1; n <= 8; n++) {
            due("nobody: a REST", x.plan(0), n);
        }
        due("nobody: a 9th", x.plan(0), FULL);
        answers("nobody rests", x, "runs", new int[] {0, 0, NONE, NONE});
        answers("nobody rests", x, "hands", new int[] {0, 0});
        due("nobody rests: round()", x.round(), NONE);
        due("nobody rests: loose()", x.loose(), 0);
        due("nobody rests: clean()", x.clean(0), NONE);
        due("nobody rests: mean()", x.mean(3, 0), 0);
        due("nobody rests: mean(), below", x.mean(3, 1), 1);
        due("nobody rests: keep()", x.keep(1), 0);
        due("nobody rests: cut()", x.cut(0), 8);
        due("nobody rests: back()", x.back(1), 0);
        due("nobody rests: THE PLAN is back", x.rule(3), 8);
    }

    /** PEOPLE (5 at most), by order. */
    private static void fiveOnesAndASixth() {
        HandLock x = Due.told("plain 10 20;gloved 11 21;child 12 22;master 13 23;plain 14 24;left 4;");
        due("five", x.rule(0), 5);
        for (int p = 0; p < 5; p++) {
            due("five: KIND of " + p, x.one(p, 0), p % 4);
            due("five: RIGHT of " + p, x.one(p, 1), 10 + p);
            due("five: LEFT of " + p, x.one(p, 2), 20 + p);
            due("five: HAND of " + p, x.one(p, 3), p == 4 ? 1 : 0);
            due("five: COUNT of " + p, x.one(p, 4), p == 4 ? 24 : 10 + p);
        }
        due("five: no sixth", x.one(5, 0), BAD);
        due("five: a TRY of the fifth", x.turn(16), NONE);
        due("five: a TRY of all", x.turn(31), 0);
        due("five: a TRY of the sixth", x.turn(32), BAD);
        due("five: a TRY of all and the sixth", x.turn(63), BAD);
        due("five: an ACT of the fifth", x.plan(16), 1);
        due("five: an ACT of the sixth", x.plan(32), BAD);
        due("five: ahead of the fifth", x.ahead(4), 24);
        due("five: ahead of the sixth", x.ahead(5), BAD);
        due("five: all COUNTS", x.count(4), 11 + 11 + 12 + 13 + 24);
        due("five: all MARKS", x.count(5), 1 + 2 + 0 + 4 + 1);
        HandLock six = Due.told("plain 7 7;");
        Due.tape(six, FIVE_CHILDREN + "child 0 0;");
        due("a sixth", six.text(), -60);
        due("a sixth: its FAULT", six.fault(), 5);
        due("a sixth: that which was told stays", six.rule(0), 1);
    }

    /** MARKS by KIND: plain 1; gloved 1 more; child 1 less than plain; master twice that of a gloved one. */
    private static void marksByKind() {
        int[] marks = {1, 2, 0, 4};
        HandLock x = Due.told("plain 10 20;child 10 10;slack 9;");
        for (int kind = 0; kind <= 3; kind++) {
            x.alter(0, 0, kind);
            x.alter(0, 1, 10);
            due("MARKS of KIND " + kind, x.one(0, 5), marks[kind]);
            due("all MARKS with KIND " + kind, x.count(5), marks[kind]);
            due("KIND " + kind + " is LET IN", x.turn(1), 0);
            due("COUNT of KIND " + kind + " then", x.one(0, 4), 10 + marks[kind]);
            due("LEFT of KIND " + kind + " then", x.one(0, 2), 20);
        }
        due("KIND 4", x.alter(0, 0, 4), BAD);
        due("KIND -1", x.alter(0, 0, -1), BAD);
    }

    /** its COUNT is MARKS more then (99 at most). */
    private static void countsStopAt99() {
        int[] marks = {1, 2, 0, 4};
        HandLock x = Due.told("plain 0 0;child 99 99;slack 9;");
        for (int kind = 0; kind <= 3; kind++) {
            for (int hand = 0; hand <= 1; hand++) {
                for (int count = 94; count <= 99; count++) {
                    x.alter(0, 0, kind);
                    x.alter(0, 3, hand);
                    x.alter(0, 1 + hand, count);
                    due("near 99: LET IN", x.turn(1), 0);
                    due("near 99: " + count + " of KIND " + kind, x.one(0, 1 + hand), Math.min(99, count + marks[kind]));
                }
            }
        }
        due("all COUNTS of two", x.count(4), 99 + 99);
        HandLock five = Due.told("plain 99 0;plain 99 0;plain 99 0;plain 99 0;plain 99 0;");
        due("all COUNTS of five", five.count(4), 5 * 99);
        due("the least of five", five.rule(5), 99);
        due("all are LET IN", five.rule(6), 31);
        due("a TRY of five", five.turn(31), 0);
        due("all COUNTS still", five.count(4), 5 * 99);
    }

    /** Likewise by what only looks ahead: above 100 the first would be shut out. */
    private static void countsStopAt99InThePlan() {
        HandLock x = Due.told("plain 95 0;child 91 0;slack 9;plan 1 1 1 1 1 1 1 1;");
        answers("near 99", x, "runs", new int[] {8, 1, NONE, 99});
        due("near 99: ahead", x.ahead(0), 99);
        due("near 99: round()", x.round(), NONE);
        due("near 99: mean", x.mean(0, 0), 8);
        due("near 99: hands", x.hands(1), 8);
        x.slack(7);
        // 95 .. 98 are LET IN, 99 is not: it is more than 91 and 7.
        answers("shut out at 99", x, "runs", new int[] {4, 1, 4, 99});
        due("shut out at 99: loose()", x.loose(), 8);
        HandLock y = Due.told("plain 50 0;slack 0;");
        due("alone to 99", y.drift(1, 49, 1), 99);
        due("alone, not above 99", y.drift(1, 60, 1), 99);
        due("alone, all are LET IN", y.drift(1, 60, 0), 60);
        HandLock z = Due.told("master 98 0;plain 99 0;slack 0;");
        due("order near 99", z.order(3, 0), 2);
        due("order near 99, the first", z.order(3, 10), 0);
        due("await near 99", z.await(1, 0), 1);
    }

    /** A REST: each RIGHT, LEFT is 1 less (0 at least). */
    private static void countsStopAt0() {
        HandLock x = Due.told("plain 0 1;gloved 2 0;child 3 99;master 1 2;plain 99 0;left 0;left 2;");
        int[] right = {0, 2, 3, 1, 99};
        int[] left = {1, 0, 99, 2, 0};
        for (int n = 0; n <= 4; n++) {
            for (int p = 0; p < 5; p++) {
                due("RIGHT behind " + n + " RESTS", x.one(p, 1), Math.max(0, right[p] - n));
                due("LEFT behind " + n + " RESTS", x.one(p, 2), Math.max(0, left[p] - n));
            }
            due("a REST: the least COUNT", x.rest(1), 0);
        }
        due("many RESTS", x.rest(94), 0);
        due("99 RESTS: the last COUNT is 0", x.one(4, 1), 0);
        due("99 RESTS: the last LEFT is 0", x.one(2, 2), 0);
        due("all COUNTS are 0", x.count(4), 0);
        due("one REST more", x.rest(1), 0);
        due("all COUNTS are 0 still", x.count(4), 0);
    }

    /** Likewise (0 at least) by what only looks ahead. */
    private static void countsStopAt0InThePlan() {
        HandLock x = Due.told("plain 1 0;plain 2 0;slack 0;plan 0 0 0 1 2;");
        answers("three RESTS", x, "runs", new int[] {2, 3, NONE, 1});
        due("three RESTS: ahead(0)", x.ahead(0), 1);
        due("three RESTS: ahead(1)", x.ahead(1), 1);
        x = Due.told("plain 3 0;gloved 1 0;plan 0 0 0 0 0 0 0 0;");
        due("eight RESTS: ahead(0)", x.ahead(0), 0);
        due("eight RESTS: ahead(1)", x.ahead(1), 0);
        due("eight RESTS: the greatest", x.runs(3), 0);
        // The hand that is not in use rests, too, but is not below 0 when it is used.
        x = Due.told("plain 9 1;child 0 0;slack 0;plan 0 0 1;");
        due("hands behind RESTS", x.hands(0), 1);
        due("hands behind RESTS, how many", x.hands(1), 1);
        due("now it is not so", x.runs(0), 0);
    }

    /** is LET IN, if its COUNT is no more than the least COUNT of all PEOPLE and SLACK; else nobody is. */
    private static void noMoreThanTheLeastAndSlack() {
        for (int slack = 0; slack <= 9; slack++) {
            HandLock x = Due.told("plain 0 0;child 5 0;slack " + slack + ";");
            x.alter(0, 1, 5 + slack);
            due("slack " + slack + ": at its edge, alone", x.rule(6), 3);
            due("slack " + slack + ": at its edge", x.turn(1), 0);
            due("slack " + slack + ": one above, alone", x.rule(6), 2);
            due("slack " + slack + ": one above", x.turn(1), NONE);
            due("slack " + slack + ": nobody's COUNT is more", x.one(0, 4), 6 + slack);
            due("slack " + slack + ": TRIED", x.rule(2), 2);
        }
        HandLock x = Due.told("plain 99 0;child 90 0;slack 9;");
        due("99 is 9 above 90", x.turn(1), 0);
        x.alter(1, 1, 89);
        due("99 is 10 above 89", x.turn(1), NONE);
    }

    /** the least COUNT of all PEOPLE, not of those who TRY; by the HAND that each uses. */
    private static void theLeastOfAllPeople() {
        HandLock x = Due.told("plain 5 0;plain 6 0;plain 0 7;slack 1;left 2;");
        due("the least in use", x.rule(5), 5);
        due("who would be LET IN", x.rule(6), 3);
        due("a TRY of two", x.turn(6), 1);
        x.alter(2, 3, 0);
        due("the least in use then", x.rule(5), 0);
        due("who would be LET IN then", x.rule(6), 4);
        due("a TRY without the least", x.turn(3), NONE);
        due("a TRY with the least", x.turn(7), 2);
    }

    /** of several the first. */
    private static void ofSeveralTheFirst() {
        HandLock x = Due.told(FIVE_CHILDREN);
        for (int some = 1; some <= 31; some++) {
            due("of several: turn(" + some + ")", x.turn(some), Integer.numberOfTrailingZeros(some));
        }
        x = Due.told("plain 0 0;plain 0 0;plain 0 0;plain 0 0;plain 0 0;");
        for (int n = 0; n < 10; n++) {
            due("in turn", x.turn(31), n % 5);
        }
    }

    /** A TRY of some ONES (one at least); BAD. */
    private static void someOnesThatThereAre() {
        StringBuilder text = new StringBuilder();
        for (int people = 0; people <= 5; people++) {
            HandLock x = Due.told(text.toString());
            int all = (1 << people) - 1;
            int[] bad = {0, -1, all + 1, all + 2, 2 * all + 1, 32, 33, 64, 1 << 30, 1 << 31, Integer.MAX_VALUE};
            for (int some : bad) {
                boolean there = some > 0 && some <= all;
                due(people + " ONES: turn(" + some + ")", x.turn(some), there ? Integer.numberOfTrailingZeros(some) : BAD);
                due(people + " ONES: order(" + some + ", 0)", x.order(some, 0), there ? Integer.bitCount(some) : BAD);
            }
            due(people + " ONES: a TRY of all", x.turn(all), people == 0 ? BAD : 0);
            due(people + " ONES: an ACT of all", x.plan(all), 1);
            due(people + " ONES: an ACT of one more", x.plan(all + 1), BAD);
            due(people + " ONES: an ACT below 0", x.plan(-1), BAD);
            due(people + " ONES: an ACT far below 0", x.plan(Integer.MIN_VALUE), BAD);
            due(people + " ONES: how many ACTS", x.rule(3), 1);
            text.append("child 0 0;");
        }
    }

    private static HandLock triedOften() {
        HandLock x = Due.told("plain 0 0;child 0 0;slack 0;");
        x.sheet(0, 0, 20);
        for (int i = 0; i < 20; i++) {
            x.lay(0, i, 2);
        }
        for (int i = 1; i <= 49; i++) {
            x.read(0, 0, 0, 20);
        }
        return x;
    }

    /** TRIED is 1 more (999 at most), whether somebody is LET IN or not. */
    private static void triedStopsAt999() {
        HandLock x = triedOften();
        due("TRIED 980", x.rule(2), 980);
        due("18 more", x.read(0, 0, 0, 18), 18);
        due("TRIED 998", x.rule(2), 998);
        due("somebody", x.turn(1), 0);
        due("TRIED 999", x.rule(2), 999);
        due("somebody again", x.turn(2), 1);
        due("TRIED 999 at most", x.rule(2), 999);
        due("nobody", x.turn(1), NONE);
        due("TRIED 999 still", x.rule(2), 999);
        due("keep", x.keep(0), 0);
        due("back: TRIED", x.back(0), 999);
        x = triedOften();
        due("20 across 999", x.read(0, 0, 0, 20) + x.read(0, 0, 0, 20), 40);
        due("TRIED across 999", x.rule(2), 999);
        due("a text that is taken", x.text(), 0);
        due("TRIED 0 as at first", x.rule(2), 0);
    }

    /** TRIED: how many TRIES there were (0 at first). */
    private static void triedIsOfTriesAlone() {
        HandLock x = Due.told("plain 0 0;plain 5 0;slack 0;plan 1 2 3;");
        due("TRIED at first", x.rule(2), 0);
        x.turn(1);
        due("TRIED when somebody is LET IN", x.rule(2), 1);
        x.turn(2);
        due("TRIED when nobody is", x.rule(2), 2);
        x.turn(0);
        x.turn(4);
        due("TRIED by what is BAD", x.rule(2), 2);
        x.rest(99);
        due("TRIED by RESTS", x.rule(2), 2);
        x.runs(0);
        x.round();
        x.order(3, 0);
        x.await(1, 0);
        x.drift(1, 60, 0);
        due("TRIED by what is asked", x.rule(2), 2);
    }

    /** n RESTS (0 to 99): the least COUNT then. */
    private static void restsFrom0To99() {
        HandLock x = Due.told("plain 99 99;gloved 99 99;left 1;");
        due("rest(0)", x.rest(0), 99);
        due("rest(0): nothing", x.count(4), 198);
        due("rest(1)", x.rest(1), 98);
        due("rest(97)", x.rest(97), 1);
        due("rest(1) to 0", x.rest(1), 0);
        x.alter(0, 1, 99);
        x.alter(1, 2, 99);
        due("rest(99)", x.rest(99), 0);
        x.alter(0, 1, 99);
        x.alter(1, 2, 99);
        due("rest(98)", x.rest(98), 1);
        due("rest(100)", x.rest(100), BAD);
        due("rest(-1)", x.rest(-1), BAD);
        due("a BAD rest is none", x.rule(5), 1);
    }

    /** KIND, RIGHT, LEFT, HAND (what 0 to 3) of a ONE becomes v: what it was. */
    private static void alterToTheEdges() {
        int[] most = {3, 99, 99, 1};
        for (int p = 0; p < 5; p += 4) {
            HandLock x = Due.told("plain 0 0;plain 0 0;plain 0 0;plain 0 0;plain 0 0;");
            for (int what = 0; what <= 3; what++) {
                due("alter to the greatest", x.alter(p, what, most[what]), 0);
                due("it is", x.one(p, what), most[what]);
                due("alter above it", x.alter(p, what, most[what] + 1), BAD);
                due("alter below the least", x.alter(p, what, -1), BAD);
                due("it is still", x.one(p, what), most[what]);
                due("alter to the least", x.alter(p, what, 0), most[what]);
                due("it is the least", x.one(p, what), 0);
                due("alter to what it is", x.alter(p, what, 0), 0);
            }
            // COUNT and MARKS are asked, not altered.
            due("alter COUNT", x.alter(p, 4, 0), BAD);
            due("alter MARKS", x.alter(p, 5, 0), BAD);
        }
    }

    /** THE PLAN with no ACTS. */
    private static void anEmptyPlan() {
        HandLock x = Due.told("plain 7 0;gloved 3 9;slack 2;");
        answers("empty", x, "runs", new int[] {0, 0, NONE, 7});
        answers("empty", x, "hands", new int[] {0, 0});
        answers("empty", x, "clean", new int[] {NONE, NONE});
        answers("empty", x, "trade", new int[] {NONE, NONE});
        due("empty: act(0)", x.act(0), BAD);
        due("empty: ahead(0)", x.ahead(0), 7);
        due("empty: ahead(1)", x.ahead(1), 3);
        due("empty: round()", x.round(), NONE);
        due("empty: loose()", x.loose(), 0);
        due("empty: mean", x.mean(5, 0), 0);
        due("empty: mean, below", x.mean(5, 1), 1);
        due("empty: luck", x.luck(5, 1, 0), 0);
        due("empty: luck, below", x.luck(5, 1, 1), 1);
        due("empty: look", x.look(0, 0), NONE);
        due("empty: counts", x.counts(0, 0), 21);
        due("empty: cut(0)", x.cut(0), 0);
        due("empty: cut(1)", x.cut(1), BAD);
        x.see(0, NONE);
        x.see(7, NONE);
        due("empty: nobody is LET IN", x.slacks(), 1023);
        x.see(0, 0);
        due("empty: somebody is not", x.slacks(), 0);
        due("empty: by no COUNT", x.counts(0, 0), 0);
    }

    /** ACTS (8 at most). FULL. */
    private static void aFullPlan() {
        HandLock x = Due.told("plain 0 0;child 0 0;slack 6;plan 1 1 1 1 1 1 1;");
        due("seven", x.rule(3), 7);
        answers("seven", x, "runs", new int[] {7, 1, NONE, 7});
        due("seven: loose()", x.loose(), 6);
        due("the eighth", x.plan(1), 8);
        due("a ninth", x.plan(1), FULL);
        due("a ninth REST", x.plan(0), FULL);
        due("eight still", x.rule(3), 8);
        due("act(7)", x.act(7), 1);
        due("act(8)", x.act(8), BAD);
        // 0 .. 6 are LET IN, 7 is more than 6.
        answers("eight", x, "runs", new int[] {7, 1, 7, 7});
        due("eight: ahead(0)", x.ahead(0), 7);
        due("eight: round()", x.round(), 1);
        due("eight: loose()", x.loose(), 7);
        x.see(7, NONE);
        due("eight: nobody by the last ACT", x.slacks(), 127);
        x.forget(0);
        x.see(7, 0);
        due("eight: somebody by the last ACT", x.slacks(), 896);
        answers("five by eight", Due.told(FIVE_CHILDREN + "plan 1 2 4 8 16 31 0 31;"), "runs", new int[] {7, 31, NONE, 0});
    }

    /** THE PLAN has its first n ACTS alone: how many it had. */
    private static void cutToTheEdges() {
        HandLock x = Due.told("plain 0 0;plan 1 0 1 0 1 0 1 0;");
        due("cut(9)", x.cut(9), BAD);
        due("cut(-1)", x.cut(-1), BAD);
        due("cut(8)", x.cut(8), 8);
        due("it is full still", x.plan(0), FULL);
        due("cut(7)", x.cut(7), 8);
        due("cut(8) of seven", x.cut(8), BAD);
        due("act(6)", x.act(6), 1);
        due("act(7)", x.act(7), BAD);
        due("one fits", x.plan(1), 8);
        due("act(7) anew", x.act(7), 1);
        due("cut(1)", x.cut(1), 8);
        due("act(0)", x.act(0), 1);
        due("act(1)", x.act(1), BAD);
        due("cut(0)", x.cut(0), 1);
        due("act(0) of none", x.act(0), BAD);
        due("cut(0) of none", x.cut(0), 0);
    }

    /** the first TRY that lets nobody in (2: its place; NONE). */
    private static void theFirstTryThatLetsNobodyIn() {
        for (int at = 0; at <= 7; at++) {
            HandLock x = Due.told("child 0 0;plain 1 0;slack 0;");
            for (int i = 0; i <= 7; i++) {
                x.plan(i >= at ? 2 : 1);
            }
            answers("shut out from " + at, x, "runs", new int[] {at, at == 0 ? 0 : 1, at, 1});
            due("shut out from " + at + ": round()", x.round(), 1);
        }
        // RESTS count as places, not as TRIES.
        HandLock x = Due.told("child 0 0;plain 9 0;slack 0;plan 0 1 0 2;");
        due("behind RESTS", x.runs(2), 3);
    }

    /** In which ROUND (1 to 60), one behind another, first a TRY lets nobody in. */
    private static void roundsFrom1To60() {
        // By the r-th ROUND the plain one is at r - 1; it is shut out above the child's COUNT and 9.
        HandLock x = Due.told("plain 0 0;child 0 0;slack 9;plan 1;");
        int[] child = {0, 1, 48, 49, 50, 51, 99};
        int[] round = {11, 12, 59, 60, NONE, NONE, NONE};
        for (int i = 0; i < child.length; i++) {
            x.alter(1, 1, child[i]);
            due("round() with a child at " + child[i], x.round(), round[i]);
        }
        x.alter(1, 1, 0);
        x.alter(0, 1, 9);
        due("round(): the second", x.round(), 2);
        x.alter(0, 1, 10);
        due("round(): the first", x.round(), 1);
        // By the r-th ROUND the plain one TRIES at r - 1 and r, the child rests at 45 - r: 27 is more than 17 and 9 first.
        HandLock y = Due.told("plain 0 0;child 45 0;slack 9;plan 0 1 1;");
        due("round() with RESTS", y.round(), 28);
    }

    private static void orderIs(String what, HandLock x, int some, int most, int... row) {
        due(what + ": how many", x.order(some, 0), most);
        for (int i = 0; i < row.length; i++) {
            due(what + ": the " + i + "-th", x.order(some, 10 + i), row[i]);
        }
        due(what + ": not so many", x.order(some, 10 + row.length), NONE);
        due(what + ": by far not so many", x.order(some, Integer.MAX_VALUE), NONE);
    }

    /** The order in which some ONES (bits, one at least) .. (NONE: not so many). */
    private static void anOrderOfOneAndOfFive() {
        orderIs("alone", Due.told("plain 99 0;slack 0;"), 1, 1, 0);
        HandLock x = Due.told("plain 5 0;child 0 0;slack 0;");
        orderIs("shut out", x, 1, 0, 0);
        orderIs("the child", x, 2, 1, 1);
        orderIs("both", x, 3, 1, 0, 1);
        orderIs("five children", Due.told(FIVE_CHILDREN + "slack 0;"), 31, 5, 0, 1, 2, 3, 4);
        // Each is LET IN only when all below it have been.
        orderIs("five masters", Due.told(FIVE_MASTERS + "slack 0;"), 31, 5, 4, 3, 2, 1, 0);
        orderIs("the fifth alone", Due.told(FIVE_MASTERS + "slack 0;"), 16, 1, 4);
        orderIs("all but the least", Due.told(FIVE_MASTERS + "slack 0;"), 15, 0, 0, 1, 2, 3);
    }

    /** are LET IN most, of several the first; each TRYING once. */
    private static void anOrderOfSeveral() {
        // 2 lets both others in, in any order behind it, the first of which has 0 first.
        orderIs("2 ahead", Due.told("plain 2 0;plain 2 0;gloved 0 0;slack 0;"), 7, 3, 2, 0, 1);
        // Nobody makes way for 0: it may as well be the first.
        orderIs("0 anyway", Due.told("plain 9 0;plain 0 0;child 0 0;slack 0;"), 7, 2, 0, 1, 2);
        // 1 is LET IN ahead of 0, at 0 both.
        orderIs("the child holds", Due.told("plain 1 0;child 0 0;slack 0;"), 3, 1, 0, 1);
    }

    private static void waits(String what, HandLock x, int p, int... row) {
        due(what + ": how many", x.await(p, 0), row.length);
        for (int i = 0; i < row.length; i++) {
            due(what + ": the " + i + "-th", x.await(p, 10 + i), row[i]);
        }
        due(what + ": not so many", x.await(p, 10 + row.length), NONE);
        due(what + ": by far not so many", x.await(p, Integer.MAX_VALUE), NONE);
    }

    /** The fewest TRIES of others alone (0 to 4), each LET IN. */
    private static void awaitNoneToFour() {
        waits("alone", Due.told("plain 99 0;slack 0;"), 0);
        HandLock x = Due.told(FIVE_MASTERS + "slack 0;");
        waits("behind none", x, 4);
        waits("behind one", x, 3, 4);
        waits("behind two", x, 2, 4, 3);
        waits("behind three", x, 1, 4, 3, 2);
        waits("behind four", x, 0, 4, 3, 2, 1);
        // The same ONE may TRY more than once.
        HandLock y = Due.told("plain 0 0;plain 4 0;slack 0;");
        waits("four times the same", y, 1, 0, 0, 0, 0);
        y.alter(1, 1, 5);
        due("five times are too many", y.await(1, 0), NONE);
        y.slack(1);
        waits("but for a slack", y, 1, 0, 0, 0, 0);
        // Others, not the ONE itself; of two rows the first.
        HandLock z = Due.told("plain 1 0;plain 1 0;plain 2 0;slack 0;");
        waits("the first row", z, 2, 0, 1);
    }

    /** BAD; NONE: by no four. */
    private static void awaitByNoFour() {
        HandLock x = Due.told(FIVE_MASTERS + "slack 0;");
        x.alter(0, 1, 5);
        due("by no four", x.await(0, 0), NONE);
        due("by no four: no row", x.await(0, 10), NONE);
        due("by no four: no row at all", x.await(0, 13), NONE);
        due("by no four: BAD what", x.await(0, 9), BAD);
        // A child is LET IN and stays the least.
        HandLock y = Due.told("plain 1 0;child 0 0;slack 0;");
        due("a child makes no way", y.await(0, 0), NONE);
        due("no such ONE", y.await(2, 0), BAD);
        due("no such ONE below", y.await(-1, 0), BAD);
    }

    /** HANDS of all (bits) by which most TRIES let somebody in, of several the least. */
    private static void handsOfNoneAndOfAll() {
        HandLock x = Due.told("child 1 0;child 2 0;child 3 0;child 4 0;child 5 0;slack 0;plan 1 2 4 8 16;");
        answers("all left", x, "hands", new int[] {31, 5, BAD});
        x = Due.told("child 0 1;child 0 2;child 0 3;child 0 4;child 0 5;left 0;left 4;slack 0;plan 1 2 4 8 16;");
        answers("all right", x, "hands", new int[] {0, 5, BAD});
        x = Due.told("child 0 1;child 0 2;child 0 3;child 0 4;child 5 0;slack 0;plan 1 2 4 8 16;");
        answers("the fifth left", x, "hands", new int[] {16, 5, BAD});
        x = Due.told(FIVE_CHILDREN + "left 0;left 1;left 2;left 3;left 4;plan 31;");
        answers("of several the least", x, "hands", new int[] {0, 1, BAD});
        x = Due.told(FIVE_CHILDREN + "left 3;plan 0;");
        answers("no TRY", x, "hands", new int[] {0, 0, BAD});
    }

    /** Whose COUNT is to become 0 .. more than as it is, of several the first. */
    private static void cleanTheFirstAndTheLast() {
        HandLock x = Due.told("child 9 0;child 0 0;child 0 0;child 0 0;child 9 0;slack 0;plan 1;");
        answers("the first", x, "clean", new int[] {0, 1, BAD});
        x.cut(0);
        x.plan(16);
        answers("the last", x, "clean", new int[] {4, 1, BAD});
        x.plan(1);
        answers("of several the first", x, "clean", new int[] {0, 1, BAD});
        x.plan(16);
        answers("most, not first", x, "clean", new int[] {4, 2, BAD});
        x.alter(4, 1, 0);
        x.alter(0, 1, 0);
        answers("nobody's: all are LET IN", x, "clean", new int[] {NONE, NONE, BAD});
        // To clean the thumb of one who is LET IN shuts the other out: fewer.
        HandLock y = Due.told("child 5 0;child 5 0;slack 0;plan 1 2;");
        answers("nobody's: fewer", y, "clean", new int[] {NONE, NONE, BAD});
        due("COUNTS are as they were", y.count(4), 10);
    }

    /** Which two ONES are to change COUNTS: 10 times the lesser and the greater, of several the least. */
    private static void tradeTheFirstAndTheLast() {
        HandLock x = Due.told("child 9 0;child 0 0;child 5 0;child 5 0;child 5 0;slack 0;plan 1;");
        answers("the first two", x, "trade", new int[] {1, 1, BAD});
        x = Due.told("child 5 0;child 5 0;child 5 0;child 0 0;child 9 0;slack 0;plan 16;");
        answers("the last two", x, "trade", new int[] {34, 1, BAD});
        x = Due.told("child 0 0;child 5 0;child 5 0;child 0 0;child 9 0;slack 0;plan 16;");
        answers("of several the least", x, "trade", new int[] {4, 1, BAD});
        x = Due.told("child 0 0;child 0 0;child 0 0;child 0 0;child 0 0;slack 0;plan 31;");
        answers("no two: no more", x, "trade", new int[] {NONE, NONE, BAD});
        answers("no two: alone", Due.told("plain 9 0;slack 0;plan 1 1;"), "trade", new int[] {NONE, NONE, BAD});
        // By the HANDS they use: 3 and 4, not 0 and 0.
        x = Due.told("child 3 0;child 0 4;left 1;slack 0;plan 2;");
        answers("COUNTS, not hands", x, "trade", new int[] {1, 1, BAD});
        due("COUNTS are as they were", x.count(4), 7);
    }

    /** The least SLACK (0 to 9) by which BY THE PLAN each TRY lets somebody in. NONE: by none. */
    private static void looseFrom0To9() {
        HandLock x = Due.told("child 0 0;child 0 0;slack 4;plan 2 1;");
        for (int above = 0; above <= 12; above++) {
            x.alter(0, 1, above);
            due("loose: " + above + " above", x.loose(), above <= 9 ? above : NONE);
        }
        due("loose: SLACK is as it was", x.rule(1), 4);
        x.alter(1, 1, 3);
        due("loose: 9 above 3", x.loose(), 9);
    }
}
