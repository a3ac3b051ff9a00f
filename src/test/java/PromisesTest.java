/** Each promise by its number: ordinary inputs, the edges that the document names, wrong inputs. Worked out by hand. */
public final class PromisesTest {
    private static final int BAD = -1, STATE = -2, FULL = -3, NONE = -4;
    private static final int MIN = Integer.MIN_VALUE, MAX = Integer.MAX_VALUE;
    private static final String FIVE =
        "plain 3 0;gloved 1 2;child 0 5;master 4 4;plain 2 1;left 0;left 4;slack 2;plan 3 24 0 8 31 17;";

    private PromisesTest() {
    }

    private static void due(String what, long got, long want) {
        Due.due(what, got, want);
    }

    private static void same(String what, HandLock lock, String picture) {
        Due.row(what + " leaves all as it was:", Due.picture(lock), picture);
    }

    public static void main(String[] args) {
        promise1();
        promise2();
        promise3();
        promise4();
        promise4Faults();
        promise4Keeps();
        promise5();
        promise6();
        promise7();
        promise8();
        promise9();
        promise10();
        promise11();
        promise12();
        promise13();
        promise14();
        promise15();
        promise16();
        promise17();
        promise18();
        promise19();
        promise20();
        promise21();
        promise22();
        promise23();
        promise24();
        promise25();
        promise26();
        promise27();
        promise28();
        promise29();
        promise30();
        promise31();
        promise32and33();
        promise34();
        promise35();
        promise36();
        promise37();
        promise38();
        Due.finish();
    }

    private static void promise1() {
        HandLock x = new HandLock();
        int[] rules = {0, 1, 0, 0, 0, NONE, 0};
        for (int what = 0; what < rules.length; what++) {
            due("new: rule(" + what + ")", x.rule(what), rules[what]);
        }
        int[] counts = {0, 0, 0, NONE, 0, 0};
        for (int what = 0; what < counts.length; what++) {
            due("new: count(" + what + ")", x.count(what), counts[what]);
        }
        for (int k = 0; k < 4; k++) {
            due("new: lay(" + k + ", 0, 0)", x.lay(k, 0, 0), -11);
        }
        due("new: fault()", x.fault(), 0);
        due("new: torn()", x.torn(), 0);
        due("new: back(0)", x.back(0), STATE);
        due("new: back(1)", x.back(1), STATE);
        due("new: act(0)", x.act(0), BAD);
        due("new: one(0, 0)", x.one(0, 0), BAD);
        due("new: turn(1)", x.turn(1), BAD);
    }

    private static void promise2() {
        HandLock x = new HandLock();
        due("feed(-1)", x.feed(-1), BAD);
        due("feed(128)", x.feed(128), BAD);
        due("feed(MIN)", x.feed(MIN), BAD);
        due("feed(MAX)", x.feed(MAX), BAD);
        due("feed(0)", x.feed(0), 1);
        due("feed(127)", x.feed(127), 2);
        for (int i = 3; i <= 160; i++) {
            due("feed: the " + i + "th byte", x.feed(32), i);
        }
        due("feed: the 161st byte", x.feed(32), FULL);
        due("feed: BAD ahead of FULL", x.feed(128), BAD);
        due("feed: still as many", x.count(2), 160);
        due("feed: byte 0 is no TOKEN", x.text(), -10);
    }

    private static void promise3() {
        HandLock x = new HandLock();
        due("end(0) of nothing", x.end(0), 0);
        due("end(1) of nothing", x.end(1), BAD);
        Due.tape(x, "slack 3;$$");
        due("end(-1)", x.end(-1), BAD);
        due("end(11)", x.end(11), BAD);
        due("end(10)", x.end(10), 10);
        due("end(8)", x.end(8), 10);
        due("end: what is left", x.count(2), 8);
        due("end: what is left is read", x.text(), 1);
        due("end: the slack", x.rule(1), 3);
        Due.tape(x, "slack 44;");
        due("end(7)", x.end(7), 9);
        due("end: feed goes on behind", x.feed(';'), 8);
        due("end: and is read", x.text(), 1);
        due("end: the slack then", x.rule(1), 4);
        for (int i = 0; i < 160; i++) {
            x.feed(32);
        }
        due("end(0) of a full tape", x.end(0), 160);
        due("end: feed after it", x.feed(32), 1);
    }

    private static void taken(String text, int lines) {
        HandLock x = new HandLock();
        Due.tape(x, text);
        due("text() of '" + text + "'", x.text(), lines);
        due("fault() of '" + text + "'", x.fault(), 0);
        due("the tape behind '" + text + "'", x.count(2), 0);
    }

    private static void promise4() {
        taken("", 0);
        taken("   ", 0);
        taken("plan;", 1);
        taken("plain0 0;", 1);
        taken("  plain   00 99  ;  slack 09 ; ", 2);
        taken("left 0;plain 0 0;", 2);
        taken("plan 31;plain 0 0;plain 0 0;plain 0 0;plain 0 0;plain 0 0;", 6);
        taken("plan 0 0 0 0 0 0 0 0;", 1);
    }

    private static void faulty(String text, int place, int fault) {
        HandLock x = Due.told("gloved 7 8;plan 1;");
        String before = Due.picture(x);
        Due.tape(x, text);
        due("text() of '" + text + "'", x.text(), -10 - place);
        due("fault() of '" + text + "'", x.fault(), fault);
        due("the tape behind '" + text + "'", x.count(2), 0);
        Due.tape(x, "slack 10;");
        x.text();
        Due.row("all behind '" + text + "'", Due.picture(x).replace(" 3 0", " 0 0"), before);
    }

    private static void promise4Faults() {
        faulty("Plain 0 0;", 0, 1);
        faulty("plain 0\t0;", 7, 1);
        faulty("plain 1234 0;", 6, 1);
        faulty("123;", 0, 1);
        faulty("slack 3 $", 8, 1);
        faulty("plan 1 1 1 1 1 1 1 1 100;", 21, 1);
        faulty("plain 99999999999999999999 0;", 6, 1);
        faulty(";", 0, 2);
        faulty("5;", 0, 2);
        faulty("plainx 0 0;", 0, 2);
        faulty("pla in 0 0;", 0, 2);
        faulty("plain", 5, 2);
        faulty("plain 0 0", 9, 2);
        faulty("plain 0 0 ", 10, 2);
        faulty("plain 0 0 0;", 10, 2);
        faulty("plain ; 0;", 6, 2);
        faulty("plain 0;", 7, 2);
        faulty("left left;", 5, 2);
        faulty("slack;", 5, 2);
        faulty("plan plan;", 5, 2);
        faulty("plan 1 2", 8, 2);
        faulty("plan 1 1 1 1 1 1 1 1 x;", 21, 2);
        faulty("slack 0;;", 8, 2);
        faulty("slack 10$", 6, 3);
        faulty("left 5$", 5, 3);
        faulty("plan 0 32", 7, 3);
        faulty("slack 1;slack", 8, 4);
        faulty("slack 1;slack $", 8, 4);
        faulty("plan;plan", 5, 4);
        faulty("left 4;left 4$", 12, 4);
        faulty("plain 0 0;left 0;left 0;", 22, 4);
        faulty("plan 1 1 1 1 1 1 1 1 1;", 21, 5);
        faulty("plan 1 1 1 1 1 1 1 1 99;", 21, 5);
        faulty("child 1 1;child 1 1;child 1 1;child 1 1;child 1 1;plain $", 50, 5);
        faulty("plan 1 1 1 1 1 1 1 1;", 21, 6);
        faulty("plan 3;plain 0 0;", 17, 6);
        faulty("left 1;plain 0 0;  ", 19, 6);
        faulty("left 4;child 0 0;child 0 0;child 0 0;child 0 0;", 47, 6);
    }

    private static void promise4Keeps() {
        HandLock x = Due.told("gloved7 8;plain0 9;left1;slack0;plan 1 0 3;");
        Due.row("text: all is told", Due.picture(x), "2 0 0 3 2 7 1 |1 7 8 0 7 2 0 0 9 1 9 1 -1 -1 -1 -1 -1 -1 "
            + "-1 -1 -1 -1 -1 -1 -1 -1 -1 -1 -1 -1 |1 0 3 -1 -1 -1 -1 -1 |0 0 0 -4 16 3 |1023 0 0");
        x.turn(1);
        x.keep(0);
        x.keep(1);
        x.see(0, 0);
        x.sheet(0, 0, 7);
        x.sheet(1, 1, 2);
        x.read(1, 1, 0, 0);
        x.read(1, 1, 2, 1);
        Due.tape(x, "left 0;");
        due("text: it fails", x.text(), -17);
        due("text: what was SEEN stays", x.count(0), 1);
        due("text: IMAGES stay", x.count(1), 2);
        due("text: TRIED stays", x.rule(2), 1);
        due("text: PEOPLE stay", x.rule(0), 2);
        due("text: who uses the left stays", x.rule(4), 2);
        due("text: an empty one", x.text(), 0);
        due("text: nothing is SEEN", x.count(0), 0);
        due("text: IMAGES are gone", x.count(1), 0);
        due("text: IMAGE 0 is gone", x.back(0), STATE);
        due("text: IMAGE 1 is gone", x.back(1), STATE);
        due("text: nobody", x.rule(0), 0);
        due("text: SLACK as at first", x.rule(1), 1);
        due("text: TRIED as at first", x.rule(2), 0);
        due("text: THE PLAN as at first", x.rule(3), 0);
        due("text: SHEETS stay", x.count(3), 7);
        due("text: torn() stays", x.torn(), 2);
    }

    private static void promise5() {
        HandLock x = new HandLock();
        Due.tape(x, "slack 10;");
        due("fault: ahead of text()", x.fault(), 0);
        x.text();
        due("fault: 3", x.fault(), 3);
        due("fault: 3 again", x.fault(), 3);
        Due.tape(x, "$");
        due("fault: the latest text()", x.fault(), 3);
        x.text();
        due("fault: 1", x.fault(), 1);
        x.text();
        due("fault: 0 then", x.fault(), 0);
    }

    private static void promise6() {
        HandLock x = Due.told(FIVE);
        int[] rules = {5, 2, 0, 6, 17, 0, 23};
        for (int what = 0; what < rules.length; what++) {
            due("rule(" + what + ")", x.rule(what), rules[what]);
        }
        due("rule(-1)", x.rule(-1), BAD);
        due("rule(7)", x.rule(7), BAD);
        due("rule(MIN)", x.rule(MIN), BAD);
        x.slack(0);
        due("rule(6), no slack", x.rule(6), 5);
        HandLock y = Due.told("plain 9 0;plain 7 99;slack 2;");
        due("rule(5), the least in use", y.rule(5), 7);
        due("rule(6), just the slack above", y.rule(6), 3);
        y.alter(0, 1, 10);
        due("rule(6), one more", y.rule(6), 2);
        due("rule(2), not tried by asking", y.rule(2), 0);
    }

    private static void promise7() {
        HandLock x = Due.told(FIVE);
        int[][] people = {{0, 3, 0, 1, 0, 1}, {1, 1, 2, 0, 1, 2}, {2, 0, 5, 0, 0, 0}, {3, 4, 4, 0, 4, 4}, {0, 2, 1, 1, 1, 1}};
        for (int p = 0; p < 5; p++) {
            for (int what = 0; what < 6; what++) {
                due("one(" + p + ", " + what + ")", x.one(p, what), people[p][what]);
            }
        }
        due("one(5, 0)", x.one(5, 0), BAD);
        due("one(-1, 0)", x.one(-1, 0), BAD);
        due("one(0, 6)", x.one(0, 6), BAD);
        due("one(0, -1)", x.one(0, -1), BAD);
        due("one(MAX, 0)", x.one(MAX, 0), BAD);
    }

    private static void promise8() {
        HandLock x = Due.told("plain 0 0;plan 1 0 1;");
        due("act(0)", x.act(0), 1);
        due("act(1)", x.act(1), 0);
        due("act(2)", x.act(2), 1);
        due("act(3)", x.act(3), BAD);
        due("act(-1)", x.act(-1), BAD);
        due("act(MIN)", x.act(MIN), BAD);
        due("act(MAX)", x.act(MAX), BAD);
    }

    private static void promise9() {
        HandLock x = Due.told("plain 3 4;plain 5 6;");
        due("alter KIND", x.alter(1, 0, 3), 0);
        due("alter RIGHT", x.alter(1, 1, 99), 5);
        due("alter LEFT", x.alter(1, 2, 0), 6);
        due("alter HAND", x.alter(1, 3, 1), 0);
        due("alter HAND back", x.alter(1, 3, 0), 1);
        due("alter HAND again", x.alter(1, 3, 1), 0);
        int[] now = {3, 99, 0, 1, 0, 4};
        for (int what = 0; what < now.length; what++) {
            due("altered one(1, " + what + ")", x.one(1, what), now[what]);
            due("not altered one(0, " + what + ")", x.one(0, what), new int[] {0, 3, 4, 0, 3, 1}[what]);
        }
        String before = Due.picture(x);
        int[][] bad = {{2, 0, 0}, {-1, 0, 0}, {0, -1, 0}, {0, 4, 0}, {0, 5, 0}, {0, 0, 4}, {0, 0, -1}, {0, 1, 100}, {0, 1, -1},
            {0, 2, 100}, {0, 2, -1}, {0, 3, 2}, {0, 3, -1}, {MIN, 0, 0}, {0, MAX, 0}, {0, 1, MAX}};
        for (int[] b : bad) {
            due("alter(" + b[0] + ", " + b[1] + ", " + b[2] + ")", x.alter(b[0], b[1], b[2]), BAD);
        }
        same("a BAD alter", x, before);
    }

    private static void promise10() {
        HandLock x = new HandLock();
        due("slack(9)", x.slack(9), 1);
        due("slack(10)", x.slack(10), BAD);
        due("slack(-1)", x.slack(-1), BAD);
        due("slack(0)", x.slack(0), 9);
        due("slack: it is", x.rule(1), 0);
        due("slack(5)", x.slack(5), 0);
    }

    private static void promise11() {
        HandLock x = new HandLock();
        due("plan(0) with nobody", x.plan(0), 1);
        due("plan(1) with nobody", x.plan(1), BAD);
        x = Due.told("plain 0 0;plain 0 0;");
        due("plan(3)", x.plan(3), 1);
        due("plan(4)", x.plan(4), BAD);
        due("plan(5)", x.plan(5), BAD);
        due("plan(-1)", x.plan(-1), BAD);
        due("plan(MIN)", x.plan(MIN), BAD);
        due("plan(32)", x.plan(32), BAD);
        for (int i = 2; i <= 8; i++) {
            due("plan: the " + i + "th", x.plan(i % 4), i);
        }
        due("plan: the 9th", x.plan(1), FULL);
        due("plan: BAD ahead of FULL", x.plan(4), BAD);
        int[] acts = {3, 2, 3, 0, 1, 2, 3, 0};
        for (int i = 0; i < 8; i++) {
            due("plan: act(" + i + ")", x.act(i), acts[i]);
        }
        x = Due.told(FIVE);
        due("plan(31) with five", x.plan(31), 7);
        due("plan(32) with five", x.plan(32), BAD);
    }

    private static void promise12() {
        HandLock x = Due.told("plain 0 0;plan 1 0 1;");
        due("cut(4)", x.cut(4), BAD);
        due("cut(-1)", x.cut(-1), BAD);
        due("cut(3)", x.cut(3), 3);
        due("cut(2)", x.cut(2), 3);
        due("cut: act(1)", x.act(1), 0);
        due("cut: act(2)", x.act(2), BAD);
        due("cut(3) then", x.cut(3), BAD);
        due("cut: plan goes on behind", x.plan(1), 3);
        due("cut(0)", x.cut(0), 3);
        due("cut: nothing", x.rule(3), 0);
        due("cut(0) again", x.cut(0), 0);
    }

    private static void promise13() {
        HandLock x = Due.told("plain 1 0;plain 1 0;child 1 0;master 3 0;slack 1;");
        due("turn: of several the first", x.turn(7), 0);
        due("turn: its COUNT", x.one(0, 4), 2);
        due("turn: then the next", x.turn(7), 1);
        due("turn: a child's COUNT stays", x.turn(7), 2);
        due("turn: the child again", x.turn(15), 2);
        due("turn: the slack above is no more", x.turn(1), 0);
        due("turn: more than the slack above", x.turn(1), NONE);
        due("turn: nobody's COUNT is more", x.count(4), 3 + 2 + 1 + 3);
        due("turn: TRIED", x.rule(2), 6);
        due("turn: the least is all PEOPLE's", x.turn(8), NONE);
        due("turn: of those who TRY", x.turn(10), 1);
        String before = Due.picture(x);
        int[] bad = {0, -1, 16, 17, 32, MIN, MAX};
        for (int some : bad) {
            due("turn(" + some + ")", x.turn(some), BAD);
        }
        same("a BAD turn", x, before);
        HandLock y = Due.told("master 97 99;plain 98 0;slack 9;");
        due("turn: near 99", y.turn(1), 0);
        due("turn: 99 at most", y.one(0, 1), 99);
        y.alter(0, 3, 1);
        due("turn: the left", y.turn(1), 0);
        due("turn: the left 99 at most", y.one(0, 2), 99);
        HandLock z = Due.told("gloved 5 0;gloved 0 0;left 0;slack 0;");
        due("turn: by the HAND in use", z.turn(3), 0);
        due("turn: the left learns", z.one(0, 2), 2);
        due("turn: the right does not", z.one(0, 1), 5);
    }

    private static void promise14() {
        HandLock x = new HandLock();
        due("rest(0) with nobody", x.rest(0), NONE);
        due("rest(100) with nobody", x.rest(100), BAD);
        x = Due.told("plain 9 4;plain 7 1;left 0;");
        due("rest(0)", x.rest(0), 4);
        due("rest(2)", x.rest(2), 2);
        int[] hands = {7, 2, 5, 0};
        for (int i = 0; i < 4; i++) {
            due("rest: hand " + i, x.one(i / 2, 1 + i % 2), hands[i]);
        }
        due("rest(-1)", x.rest(-1), BAD);
        due("rest(100)", x.rest(100), BAD);
        due("rest(3)", x.rest(3), 0);
        due("rest: TRIED", x.rule(2), 0);
        x.alter(0, 1, 99);
        due("rest(98)", x.rest(98), 0);
        due("rest: 1 is left", x.one(0, 1), 1);
        due("rest(99)", x.rest(99), 0);
        due("rest: 0 at least", x.one(0, 1), 0);
    }

    private static HandLock three() {
        return Due.told("plain 0 0;gloved 2 0;master 5 1;slack 1;plan 1 2 0 4;");
    }

    private static void promise15() {
        HandLock x = three();
        String before = Due.picture(x);
        due("runs(0)", x.runs(0), 2);
        due("runs(1)", x.runs(1), 3);
        due("runs(2)", x.runs(2), 3);
        due("runs(3)", x.runs(3), 4);
        due("runs(-1)", x.runs(-1), BAD);
        due("runs(4)", x.runs(4), BAD);
        same("runs", x, before);
        x.cut(3);
        due("runs(2), a REST is none", x.runs(2), NONE);
        x.cut(0);
        due("runs(0) of no ACT", x.runs(0), 0);
        due("runs(3) of no ACT", x.runs(3), 5);
        HandLock y = new HandLock();
        y.plan(0);
        due("runs(1) with nobody", y.runs(1), 0);
        due("runs(3) with nobody", y.runs(3), NONE);
    }

    private static void promise16() {
        HandLock x = three();
        String before = Due.picture(x);
        due("ahead(0)", x.ahead(0), 0);
        due("ahead(1)", x.ahead(1), 3);
        due("ahead(2)", x.ahead(2), 4);
        due("ahead(3)", x.ahead(3), BAD);
        due("ahead(-1)", x.ahead(-1), BAD);
        due("ahead(MAX)", x.ahead(MAX), BAD);
        same("ahead", x, before);
    }

    private static void promise17() {
        due("round() of three", three().round(), 1);
        HandLock x = Due.told("plain 0 0;child 0 0;slack 9;plan 1;");
        String before = Due.picture(x);
        due("round(): 0 .. 9 are let in, 10 not", x.round(), 11);
        same("round", x, before);
        x.plan(0);
        due("round(): rests in time", x.round(), NONE);
        HandLock y = Due.told("plain 0 0;child 0 40;slack 9;left 1;plan 1;");
        due("round(): in the 50th", y.round(), 51);
        y.alter(1, 2, 49);
        due("round(): in the 60th", y.round(), 60);
        y.alter(1, 2, 50);
        due("round(): in none of 60", y.round(), NONE);
        y.cut(0);
        due("round(): no ACT", y.round(), NONE);
    }

    private static void promise18() {
        HandLock x = three();
        String before = Due.picture(x);
        int[] all = {2, 0, 1, 2, NONE};
        int[] two = {0, 1, 2, NONE, NONE};
        for (int i = 0; i < 5; i++) {
            int what = i == 0 ? 0 : 9 + i;
            due("order(7, " + what + ")", x.order(7, what), all[i]);
            due("order(6, " + what + ")", x.order(6, what), two[i]);
        }
        due("order(7, 1000)", x.order(7, 1000), NONE);
        due("order(7, MAX)", x.order(7, MAX), NONE);
        int[][] bad = {{0, 0}, {8, 0}, {-1, 0}, {MIN, 0}, {7, 1}, {7, 9}, {7, -1}, {7, MIN}};
        for (int[] b : bad) {
            due("order(" + b[0] + ", " + b[1] + ")", x.order(b[0], b[1]), BAD);
        }
        same("order", x, before);
        HandLock y = Due.told("plain 1 0;plain 0 0;slack 0;");
        due("order: both", y.order(3, 0), 2);
        due("order: whom to send ahead", y.order(3, 10), 1);
        due("order: then", y.order(3, 11), 0);
        due("order: nobody else", y.order(3, 12), NONE);
        HandLock z = Due.told("plain 3 0;plain 2 0;plain 1 0;plain 1 0;plain 0 0;slack 0;");
        // 4 goes to 1; 2 and 3 are let in at 1, then all but 0 and 1 are at 2 or less: 4 is at 1 still, so nobody more.
        due("order: most of five", z.order(31, 0), 3);
        int[] row = {0, 1, 4, 2, 3};
        for (int i = 0; i < 5; i++) {
            due("order: the first of several, " + i, z.order(31, 10 + i), row[i]);
        }
    }

    private static void promise19() {
        HandLock x = Due.told("plain 1 0;plain 0 0;slack 0;");
        String before = Due.picture(x);
        due("await(0, 0)", x.await(0, 0), 1);
        due("await(0, 10)", x.await(0, 10), 1);
        due("await(0, 11)", x.await(0, 11), NONE);
        due("await(1, 0)", x.await(1, 0), 0);
        due("await(1, 10)", x.await(1, 10), NONE);
        due("await(0, MAX)", x.await(0, MAX), NONE);
        int[][] bad = {{2, 0}, {-1, 0}, {MIN, 0}, {0, 1}, {0, 9}, {0, -1}, {0, MIN}};
        for (int[] b : bad) {
            due("await(" + b[0] + ", " + b[1] + ")", x.await(b[0], b[1]), BAD);
        }
        same("await", x, before);
        x.alter(0, 1, 4);
        due("await: four", x.await(0, 0), 4);
        due("await: the fourth", x.await(0, 13), 1);
        due("await: no fifth", x.await(0, 14), NONE);
        x.alter(0, 1, 5);
        due("await: by no four", x.await(0, 0), NONE);
        due("await: by no four, no row", x.await(0, 10), NONE);
        x.slack(1);
        due("await: with slack", x.await(0, 0), 4);
        HandLock y = Due.told("plain 1 0;plain 0 0;plain 0 0;slack 0;");
        due("await: two others", y.await(0, 0), 2);
        due("await: the first row, 0", y.await(0, 10), 1);
        due("await: the first row, 1", y.await(0, 11), 2);
        HandLock z = Due.told("master 3 0;plain 2 0;plain 0 0;slack 1;");
        // 2 twice, then all are 2 at least; 1 first is not let in at 0, but behind 2 it is.
        due("await: each is LET IN", z.await(0, 0), 2);
        due("await: each is LET IN, 0", z.await(0, 10), 2);
        due("await: each is LET IN, 1", z.await(0, 11), 2);
        due("await: nobody ahead of 2", z.await(2, 0), 0);
        due("await: one ahead of 1", z.await(1, 0), 1);
    }

    private static void promise20() {
        HandLock x = Due.told("plain 5 0;plain 0 0;slack 0;plan 1;");
        String before = Due.picture(x);
        due("hands(0)", x.hands(0), 1);
        due("hands(1)", x.hands(1), 1);
        due("hands(2)", x.hands(2), BAD);
        due("hands(-1)", x.hands(-1), BAD);
        same("hands", x, before);
        x = Due.told("plain 3 3;plain 0 3;slack 0;plan 1;");
        due("hands: the other's left", x.hands(0), 2);
        x = Due.told("plain 0 0;plain 0 0;left 0;left 1;plan 3;");
        due("hands: of several the least, not as it is", x.hands(0), 0);
        due("hands: how many", x.hands(1), 1);
        x = Due.told("plain 0 0;plan 0;");
        due("hands: no TRY", x.hands(0), 0);
        due("hands: no TRY, how many", x.hands(1), 0);
        due("hands: five", Due.told(FIVE).hands(0), 4);
    }

    private static void promise21() {
        HandLock x = Due.told("plain 5 9;plain 0 0;slack 0;plan 1 1;");
        String before = Due.picture(x);
        due("clean(0)", x.clean(0), 0);
        due("clean(1)", x.clean(1), 1);
        due("clean(2)", x.clean(2), BAD);
        due("clean(-1)", x.clean(-1), BAD);
        same("clean", x, before);
        x.alter(0, 3, 1);
        due("clean: the left", x.clean(0), 0);
        x = Due.told("plain 5 0;plain 5 0;child 0 0;slack 0;plan 3;");
        due("clean: of several the first", x.clean(0), 0);
        x = Due.told("plain 0 0;plain 4 0;child 0 0;slack 1;plan 2 2 1;");
        due("clean: whose", x.clean(0), 1);
        due("clean: how many", x.clean(1), 3);
        x = Due.told("plain 0 0;plain 0 0;plan 1 1;");
        due("clean: no more than as it is", x.clean(0), NONE);
        due("clean: no more, how many", x.clean(1), NONE);
    }

    private static void promise22() {
        HandLock x = Due.told("plain 5 0;plain 0 0;slack 0;plan 1;");
        String before = Due.picture(x);
        due("trade(0)", x.trade(0), 1);
        due("trade(1)", x.trade(1), 1);
        due("trade(2)", x.trade(2), BAD);
        due("trade(-1)", x.trade(-1), BAD);
        same("trade", x, before);
        x = Due.told("child 9 0;plain 5 0;plain 0 0;slack 0;plan 2;");
        due("trade: 1 and 2", x.trade(0), 12);
        x = Due.told("child 0 0;plain 5 0;plain 0 0;slack 0;plan 2;");
        due("trade: of several the least", x.trade(0), 1);
        x = Due.told("plain 5 1;plain 2 0;left 1;slack 0;plan 1;");
        due("trade: of the HANDS in use", x.trade(0), 1);
        x = Due.told("plain 0 0;plain 5 0;slack 9;plan 1;");
        due("trade: no two", x.trade(0), NONE);
        due("trade: no two, how many", x.trade(1), NONE);
        due("trade: alone", Due.told("plain 5 0;plan 1;").trade(0), NONE);
    }

    private static void promise23() {
        HandLock x = Due.told("plain 5 0;plain 0 0;plan 1;");
        String before = Due.picture(x);
        due("loose()", x.loose(), 5);
        same("loose", x, before);
        x.alter(0, 1, 9);
        due("loose: 9", x.loose(), 9);
        x.alter(0, 1, 10);
        due("loose: by none", x.loose(), NONE);
        x.plan(0);
        x.cut(0);
        x.plan(0);
        due("loose: a REST is no TRY", x.loose(), 0);
        due("loose: each TRY", Due.told("plain 0 0;plain 0 0;slack 0;plan 1 1 1;").loose(), 2);
    }

    private static void fraction(String what, long above, long below, long wantAbove, long wantBelow) {
        due(what + ", above", above, wantAbove);
        due(what + ", below", below, wantBelow);
    }

    private static void means(HandLock x, int v, long above, long below) {
        fraction("mean(" + v + ")", x.mean(v, 0), x.mean(v, 1), above, below);
    }

    private static void lucks(HandLock x, int v, int p, long above, long below) {
        fraction("luck(" + v + ", " + p + ")", x.luck(v, p, 0), x.luck(v, p, 1), above, below);
    }

    private static void promise24() {
        means(new HandLock(), 5, 0, 1);
        HandLock x = Due.told("plain 0 0;plan 1;");
        means(x, 3, 7, 10);
        means(x, 0, 1, 1);
        means(x, 10, 0, 1);
        String before = Due.picture(x);
        int[][] bad = {{-1, 0}, {11, 0}, {5, 2}, {5, -1}, {MIN, 0}, {0, MAX}};
        for (int[] b : bad) {
            due("mean(" + b[0] + ", " + b[1] + ")", x.mean(b[0], b[1]), BAD);
        }
        same("mean", x, before);
        means(Due.told("plain 0 0;plain 0 0;plan 3;"), 5, 3, 4);
        // The one who stays away is the least still: alone, the other is not let in.
        means(Due.told("plain 2 0;plain 0 0;slack 1;plan 3;"), 5, 1, 2);
        // Away from all TRIES or from none.
        means(Due.told("plain 0 0;slack 9;plan 1 1;"), 2, 8, 5);
        // RESTS are all the same: 1 is let in behind 2 RESTS if it comes.
        means(Due.told("plain 0 0;plain 3 0;slack 1;plan 0 0 2;"), 4, 3, 5);
        means(Due.told(FIVE), 3, 35119, 10000);
    }

    private static void promise25() {
        HandLock x = Due.told("plain 2 0;plain 0 0;slack 1;plan 3;");
        lucks(x, 5, 0, 0, 1);
        lucks(x, 5, 1, 1, 2);
        lucks(x, 10, 1, 0, 1);
        lucks(x, 0, 1, 1, 1);
        String before = Due.picture(x);
        int[][] bad = {{-1, 0, 0}, {11, 0, 0}, {5, 2, 0}, {5, -1, 0}, {5, 0, 2}, {5, 0, -1}, {5, NONE, 0}, {MAX, 0, 0}};
        for (int[] b : bad) {
            due("luck(" + b[0] + ", " + b[1] + ", " + b[2] + ")", x.luck(b[0], b[1], b[2]), BAD);
        }
        same("luck", x, before);
        // By some TRY, however many.
        lucks(Due.told("plain 0 0;slack 9;plan 1 1;"), 2, 0, 4, 5);
        // 1 is let in by the TRY of both only if 0 stays away: 7/10 times 3/10.
        lucks(Due.told("plain 0 0;plain 0 0;plan 3;"), 3, 1, 21, 100);
        due("luck with nobody", new HandLock().luck(5, 0, 0), BAD);
    }

    private static void promise26() {
        HandLock x = Due.told("plain 0 0;plain 0 0;plan 3;");
        due("see(0, 0)", x.see(0, 0), 1);
        due("see(7, NONE)", x.see(7, NONE), 2);
        due("see(0, 0) again", x.see(0, 0), 3);
        int[][] bad = {{-1, 0}, {8, 0}, {0, 2}, {0, -1}, {0, -2}, {0, -3}, {0, -5}, {MIN, 0}, {0, MAX}};
        for (int[] b : bad) {
            due("see(" + b[0] + ", " + b[1] + ")", x.see(b[0], b[1]), BAD);
        }
        due("see: 4", x.see(1, 1), 4);
        due("see: 5", x.see(1, 1), 5);
        due("see: 6", x.see(1, 1), 6);
        due("see: FULL", x.see(1, 1), FULL);
        due("see: BAD ahead of FULL", x.see(8, 1), BAD);
        due("see: count(0)", x.count(0), 6);
        x.turn(1);
        x.cut(0);
        due("see: stays SEEN", x.count(0), 6);
    }

    private static void promise27() {
        HandLock x = Due.told("plain 3 0;plain 0 0;plan 1;");
        due("forget(0) of nothing", x.forget(0), 0);
        due("forget(1) of nothing", x.forget(1), BAD);
        x.see(0, 0);
        x.see(0, NONE);
        due("forget: no slack fits both", x.slacks(), 0);
        due("forget(3)", x.forget(3), BAD);
        due("forget(-1)", x.forget(-1), BAD);
        due("forget(2)", x.forget(2), 2);
        due("forget(1)", x.forget(1), 2);
        due("forget: the first stays", x.slacks(), 1016);
        due("forget(0)", x.forget(0), 1);
        due("forget: all", x.slacks(), 1023);
        due("forget: count(0)", x.count(0), 0);
    }

    private static void countsAre(HandLock x, int p, int many, int least, int greatest) {
        due("counts(" + p + ", 0)", x.counts(p, 0), many);
        due("counts(" + p + ", 1)", x.counts(p, 1), least);
        due("counts(" + p + ", 2)", x.counts(p, 2), greatest);
    }

    private static void promise28() {
        HandLock x = Due.told("plain 3 0;plain 5 0;slack 1;plan 3 1 0;");
        countsAre(x, 0, 21, 0, 20);
        x.see(0, 0);
        String before = Due.picture(x);
        countsAre(x, 0, 6, 0, 5);
        // 1 is not ahead of 0 from 3 on, as 0 is the first.
        countsAre(x, 1, 18, 3, 20);
        x.see(2, NONE);
        x.see(3, NONE);
        x.see(7, NONE);
        countsAre(x, 0, 6, 0, 5);
        x.see(2, 0);
        countsAre(x, 0, 0, NONE, NONE);
        x.forget(1);
        same("counts", x, before);
        int[][] bad = {{2, 0}, {-1, 0}, {0, 3}, {0, -1}, {MIN, 0}, {0, MAX}};
        for (int[] b : bad) {
            due("counts(" + b[0] + ", " + b[1] + ")", x.counts(b[0], b[1]), BAD);
        }
        x.see(1, NONE);
        countsAre(x, 0, 0, NONE, NONE);
        HandLock y = Due.told("plain 0 50;plain 5 0;left 0;slack 0;plan 2;");
        y.see(0, 1);
        countsAre(y, 0, 16, 5, 20);
        y.turn(2);
        due("counts: from now on", y.counts(0, 1), 6);
    }

    private static void promise29() {
        HandLock x = Due.told("plain 3 0;plain 0 0;slack 5;plan 1;");
        due("slacks() of nothing SEEN", x.slacks(), 1023);
        x.see(0, 0);
        String before = Due.picture(x);
        due("slacks: from 3 on", x.slacks(), 1016);
        same("slacks", x, before);
        x.forget(0);
        x.see(0, NONE);
        due("slacks: up to 2", x.slacks(), 7);
        x.see(1, 1);
        due("slacks: behind THE PLAN nobody is LET IN", x.slacks(), 0);
    }

    private static void promise30() {
        HandLock x = Due.told("plain 3 0;plain 5 0;slack 1;plan 2 3 0;");
        String before = Due.picture(x);
        due("look(0, 0)", x.look(0, 0), 1);
        due("look(0, 1)", x.look(0, 1), 14);
        int[][] bad = {{2, 0}, {-1, 0}, {0, 2}, {0, -1}, {MAX, 0}, {0, MIN}};
        for (int[] b : bad) {
            due("look(" + b[0] + ", " + b[1] + ")", x.look(b[0], b[1]), BAD);
        }
        same("look", x, before);
        x.see(1, 1);
        due("look: none tells more", x.look(0, 0), NONE);
        due("look: none tells more, how many", x.look(0, 1), NONE);
        x.forget(0);
        x.see(0, 1);
        // 4 .. 20 are left; by the TRY of both 4 .. 6 let in 0, the others 1, who is at 6 then.
        due("look: when one is SEEN", x.look(0, 0), 1);
        due("look: when one is SEEN, how many", x.look(0, 1), 14);
        x.see(2, 1);
        due("look: none may have been", x.look(0, 0), NONE);
        HandLock y = Due.told("plain 3 0;plain 5 0;slack 1;plan 0 0;");
        due("look: RESTS tell nothing", y.look(0, 0), NONE);
        HandLock z = Due.told("plain 0 0;plain 5 0;child 0 0;slack 9;plan 1 4 1;");
        // 0 .. 9 are let in, 10 .. 20 not: 11 at the worst; then 0 .. 8 are and 9 .. 20 not.
        due("look: the first", z.look(0, 0), 0);
        due("look: how many", z.look(0, 1), 11);
    }

    private static void promise31() {
        due("drift with nobody", new HandLock().drift(1, 1, 0), STATE);
        due("drift: BAD ahead of STATE", new HandLock().drift(1, 0, 0), BAD);
        HandLock x = Due.told("plain 0 0;master 0 0;slack 0;");
        String before = Due.picture(x);
        // By the seed 1: 16838, 5758, 10113, 17515, 31051; modulo 3 and 1: 3, 2, 1, 2, 2.
        int[] in = {1, 2, 3, 3, 3};
        int[] most = {1, 4, 4, 4, 4};
        for (int n = 1; n <= 5; n++) {
            due("drift(1, " + n + ", 0)", x.drift(1, n, 0), in[n - 1]);
            due("drift(1, " + n + ", 1)", x.drift(1, n, 1), most[n - 1]);
        }
        int[][] bad = {{0, 0}, {61, 0}, {-1, 0}, {1, 2}, {1, -1}, {MIN, 0}, {1, MAX}};
        for (int[] b : bad) {
            due("drift(1, " + b[0] + ", " + b[1] + ")", x.drift(1, b[0], b[1]), BAD);
        }
        same("drift", x, before);
        HandLock y = Due.told("plain 0 0;plan 1;");
        due("drift: alone", y.drift(MIN, 60, 0), 60);
        due("drift: alone, the greatest", y.drift(MAX, 60, 1), 60);
    }

    private static void promise32and33() {
        HandLock x = Due.told("plain 1 2;plain 3 4;left 1;slack 3;plan 1 0;");
        due("keep(2)", x.keep(2), BAD);
        due("keep(-1)", x.keep(-1), BAD);
        due("back(2)", x.back(2), BAD);
        due("back(-1)", x.back(-1), BAD);
        due("back: there is none", x.back(1), STATE);
        x.turn(3);
        due("keep(0)", x.keep(0), 0);
        due("back: the other is none", x.back(1), STATE);
        String kept = Due.picture(x);
        x.turn(1);
        x.turn(2);
        x.alter(0, 0, 3);
        x.alter(1, 3, 0);
        x.alter(1, 2, 50);
        x.slack(7);
        x.plan(2);
        due("keep(1)", x.keep(1), 0);
        x.cut(0);
        x.rest(50);
        due("back(0)", x.back(0), 1);
        Due.row("back: all is as IMAGE 0", Due.picture(x), kept.replace("|0 1 0", "|0 2 0"));
        due("back(1)", x.back(1), 3);
        due("back: LEFT", x.one(1, 2), 50);
        due("back: SLACK", x.rule(1), 7);
        due("back: KIND", x.one(0, 0), 3);
        due("back: THE PLAN", x.act(2), 2);
        due("keep(0) in its place", x.keep(0), 1);
        due("back: the new one", x.back(0), 3);
        due("back: again", x.back(0), 3);
        x.see(0, 0);
        x.back(1);
        due("back: what is SEEN stays", x.count(0), 1);
        HandLock y = new HandLock();
        due("keep: nobody", y.keep(1), 0);
        y.slack(4);
        due("back: nobody", y.back(1), 0);
        due("back: nobody's SLACK", y.rule(1), 1);
    }

    private static void promise34() {
        HandLock x = new HandLock();
        due("sheet(0, 0, 0)", x.sheet(0, 0, 0), 1);
        due("sheet: no CELLS", x.count(3), 0);
        due("sheet(0, 2, 40)", x.sheet(0, 2, 40), 1);
        due("sheet: forty", x.count(3), 40);
        due("sheet: its last", x.lay(0, 39, 5), 1);
        due("sheet(0, 0, -1)", x.sheet(0, 0, -1), -14);
        due("sheet(0, 0, MIN)", x.sheet(0, 0, MIN), -14);
        int[][] bad = {{4, 0, 1}, {-1, 0, 1}, {0, 3, 1}, {0, -1, 1}, {0, 0, 41}, {0, 0, MAX}, {4, 0, -1}, {0, 3, -1}};
        for (int[] b : bad) {
            due("sheet(" + b[0] + ", " + b[1] + ", " + b[2] + ")", x.sheet(b[0], b[1], b[2]), BAD);
        }
        due("sheet: what is refused changes nothing", x.count(3), 40);
        HandLock y = Due.told("plain 0 0;");
        y.sheet(3, 1, 3);
        y.lay(3, 2, 1);
        due("sheet: a CELL", y.read(3, 1, 2, 1), 1);
        y.sheet(3, 1, 3);
        due("sheet: CELLS are 0 anew", y.read(3, 1, 2, 1), -20);
        y.sheet(3, 1, 2);
        due("sheet: smaller anew", y.lay(3, 2, 1), -12);
        y.sheet(3, 1, 3);
        due("sheet: larger anew, 0 too", y.read(3, 1, 2, 1), -20);
    }

    /** Whether the CELL holds 1 then: it is read as a TRY of the ONE that there is. */
    private static void lays(int lane, int v, boolean one) {
        HandLock x = Due.told("plain 0 0;");
        x.sheet(2, lane, 1);
        due("lay(2, 0, " + v + ")", x.lay(2, 0, v), 1);
        due("lay: lane " + lane + ", " + v, x.read(2, lane, 0, 1), one ? 1 : -20);
    }

    private static void promise35() {
        lays(0, 1, true);
        lays(0, 257, true);
        lays(0, 0x12345601, true);
        lays(0, 256, false);
        lays(0, -255, true);
        lays(0, 129, false);
        lays(1, 257, false);
        lays(1, 65537, true);
        lays(1, -65535, true);
        lays(2, 65537, false);
        lays(2, 1, true);
        lays(2, MIN + 1, false);
        HandLock x = new HandLock();
        due("lay: NULL", x.lay(0, 0, 0), -11);
        due("lay: NULL ahead of INDEX", x.lay(0, -1, 0), -11);
        x.sheet(0, 0, 3);
        int[] out = {-1, 3, 40, MIN, MAX};
        for (int i : out) {
            due("lay(0, " + i + ", 1)", x.lay(0, i, 1), -12);
        }
        due("lay(4, 0, 0)", x.lay(4, 0, 0), BAD);
        due("lay(-1, 0, 0)", x.lay(-1, 0, 0), BAD);
        due("lay: torn() is of read()", x.torn(), 0);
        x.sheet(1, 2, 0);
        due("lay: no CELL", x.lay(1, 0, 0), -12);
    }

    private static HandLock withSheet(int... cells) {
        HandLock x = Due.told("plain 0 0;plain 0 0;slack 0;");
        x.sheet(1, 1, cells.length);
        for (int i = 0; i < cells.length; i++) {
            x.lay(1, i, cells[i]);
        }
        return x;
    }

    private static void promise36() {
        HandLock x = withSheet(1, 1, 3, 0, 2, -1);
        due("read: NONE counts, too", x.read(1, 1, 0, 3), 3);
        due("read: TRIED", x.rule(2), 3);
        due("read: 0's COUNT", x.one(0, 4), 1);
        due("read: 1's COUNT", x.one(1, 4), 1);
        String before = Due.picture(x);
        due("read: the i-th is BAD", x.read(1, 1, 0, 5), -23);
        due("read: the i-th from f on", x.read(1, 1, 2, 5), -21);
        due("read: BAD met ahead of INDEX", x.read(1, 1, 4, 20), -21);
        int[][] bad = {{4, 1, 0, 1}, {-1, 1, 0, 1}, {1, 3, 0, 1}, {1, -1, 0, 1}, {1, 1, 0, 21}, {1, 1, 0, -1}, {1, 0, 0, 21},
            {0, 0, 0, 21}};
        for (int[] b : bad) {
            due("read(" + b[0] + ", " + b[1] + ", " + b[2] + ", " + b[3] + ")", x.read(b[0], b[1], b[2], b[3]), BAD);
        }
        same("a BAD read", x, before);
        due("read: of no lane's kind", x.read(1, 2, 0, 1), 0);
        due("read: of nothing", x.read(0, 2, 0, 1), 0);
        due("read: n 0", x.read(1, 1, 0, 0), 0);
        due("read: from behind", x.read(1, 1, 6, 3), 0);
        due("read: from ahead", x.read(1, 1, -1, 3), 0);
        due("read: from MAX", x.read(1, 1, MAX, 20), 0);
        due("read: from MIN", x.read(1, 1, MIN, 20), 0);
        due("read: TRIED is as it was", x.rule(2), 3);
        HandLock y = withSheet(3, 3, 3);
        due("read: those ahead were", y.read(1, 1, 1, 20), 2);
        due("read: TRIED by those", y.rule(2), 2);
        due("read: 4 is of nobody", withSheet(3, 4).read(1, 1, 0, 2), -21);
        HandLock z = withSheet(1, 1, 1, 1, 1, 1, 1, 1, 1, 1, 1, 1, 1, 1, 1, 1, 1, 1, 1, 1);
        for (int i = 1; i <= 49; i++) {
            due("read: 20", z.read(1, 1, 0, 20), 20);
        }
        due("read: TRIED by all", z.rule(2), 980);
        z.read(1, 1, 0, 19);
        due("read: TRIED 999", z.rule(2), 999);
        z.read(1, 1, 0, 20);
        due("read: TRIED 999 at most", z.rule(2), 999);
        due("read: who is there", new HandLock().read(0, 0, 0, 1), 0);
    }

    private static void promise37() {
        HandLock x = withSheet(1, 0);
        x.read(1, 1, 0, 1);
        due("torn: 0", x.torn(), 0);
        x.read(1, 2, 0, 1);
        due("torn: CAST", x.torn(), 3);
        x.read(1, 1, 1, 1);
        due("torn: a BAD TRY is refused", x.torn(), 3);
        x.read(1, 1, 0, 21);
        due("torn: a BAD read is refused", x.torn(), 3);
        x.read(0, 0, 0, 1);
        due("torn: NULL", x.torn(), 1);
        x.sheet(0, 0, -1);
        x.lay(1, 9, 9);
        due("torn: of read() alone", x.torn(), 1);
        x.read(1, 1, 2, 1);
        due("torn: INDEX", x.torn(), 2);
        x.read(1, 0, 9, 1);
        due("torn: CAST ahead of INDEX", x.torn(), 3);
        x.read(1, 1, 9, 0);
        due("torn: nothing is read, no INDEX", x.torn(), 0);
        x.read(1, 0, 0, 1);
        due("torn: CAST ahead of a CELL that there is", x.torn(), 3);
        for (int lane = 0; lane <= 2; lane++) {
            x.read(1, 1, 9, 1);
            due("torn: of no TRY, lane " + lane + ": a FAULT ahead of it", x.torn(), 2);
            due("read of no TRY, lane " + lane, x.read(1, lane, 9, 0), 0);
            due("torn: of no TRY, lane " + lane, x.torn(), 0);
            x.read(1, 1, 9, 1);
            due("read of no TRY of nothing, lane " + lane, x.read(0, lane, -1, 0), 0);
            due("torn: of no TRY of nothing, lane " + lane, x.torn(), 0);
        }
        x.text();
        x.read(1, 1, -1, 1);
        due("torn: INDEX below 0", x.torn(), 2);
    }

    private static void promise38() {
        HandLock x = Due.told(FIVE);
        x.see(0, 0);
        x.see(0, 0);
        x.keep(1);
        x.feed(32);
        x.feed(32);
        x.feed(32);
        x.sheet(0, 2, 17);
        x.sheet(1, 2, 5);
        int[] counts = {2, 1, 3, 17, 0 + 1 + 0 + 4 + 1, 1 + 2 + 0 + 4 + 1};
        for (int what = 0; what < counts.length; what++) {
            due("count(" + what + ")", x.count(what), counts[what]);
        }
        due("count(-1)", x.count(-1), BAD);
        due("count(6)", x.count(6), BAD);
        due("count(MAX)", x.count(MAX), BAD);
        x.keep(0);
        due("count(1), both", x.count(1), 2);
        x.keep(0);
        due("count(1), both still", x.count(1), 2);
        x.turn(8);
        x.rest(1);
        due("count(4) behind a REST", x.count(4), 3);
    }
}
