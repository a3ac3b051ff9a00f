/** THE TAPE, TOKENS, lines and FAULTS: each sentence of the Terms at its edges, and promises 2 to 5. */
public final class EdgesOfTextTest {
    private static final int BAD = -1, STATE = -2, FULL = -3, NONE = -4;
    private static final int NO_TOKEN = 1, MISPLACED = 2, BOUNDS = 3, AGAIN = 4, TOO_MANY = 5, NOT_THERE = 6;
    private static final String[] KINDS = {"plain", "gloved", "child", "master"};

    /** What each text that is refused must leave. */
    private static String standing;

    private EdgesOfTextTest() {
    }

    public static void main(String[] args) {
        standing = allOf(told());
        theTapeHas160Bytes();
        placesAreFrom0();
        endKeepsTheFirst();
        tokensAreAsLongAsMayBe();
        blanksAre32();
        everyByteAlone();
        everyByteBehindAName();
        everyByteBehindANumber();
        numbersHaveOneOrTwoFigures();
        oneStop();
        noLineAndTwelve();
        tokensThatCanNotStandThere();
        namesThatBeginNoLine();
        numbersOfOnes();
        numbersOfLeft();
        numbersOfSlack();
        numbersOfPlan();
        aTokenIsReadWhenTheOneBeforeHasBeenTaken();
        slackAndPlanForTheSecondTime();
        leftAlready();
        theSixthOne();
        theNinthAct();
        aOneThatThereIsNot();
        aOneThatThereIsNotIsFoundBehindAll();
        aTakenTextTellsAll();
        aTakenTextEmptiesTheRest();
        aRefusedTextLeavesAll();
        theFaultOfTheLatestText();
        Due.finish();
    }

    private static HandLock told() {
        HandLock x = Due.told("gloved 7 8;master 1 0;left 1;slack 3;plan 2 0;");
        x.turn(1);
        x.keep(0);
        x.slack(5);
        x.see(0, 1);
        return x;
    }

    private static String allOf(HandLock x) {
        return Due.standing(x) + Rich.held(x);
    }

    private static HandLock takes(String text, int lines) {
        HandLock x = new HandLock();
        Due.tape(x, text);
        Due.due("text() of '" + text + "'", x.text(), lines);
        Due.due("fault() of '" + text + "'", x.fault(), 0);
        Due.due("THE TAPE behind '" + text + "'", x.count(2), 0);
        return x;
    }

    /** The FAULT and its place; that which was told stays, THE TAPE is empty. */
    private static void faults(String text, int fault, int place) {
        HandLock x = told();
        Due.tape(x, text);
        Due.due("text() of '" + text + "'", x.text(), -10 - place);
        Due.due("fault() of '" + text + "'", x.fault(), fault);
        Due.due("THE TAPE behind '" + text + "'", x.count(2), 0);
        Due.row("all behind '" + text + "'", allOf(x), standing);
    }

    private static String blanks(int n) {
        return " ".repeat(n);
    }

    /** THE TAPE has 160 bytes. */
    private static void theTapeHas160Bytes() {
        HandLock x = new HandLock();
        Due.due("an empty TAPE", x.count(2), 0);
        for (int n = 1; n <= 160; n++) {
            Due.due("feed: byte " + n, x.feed(n == 160 ? ';' : n == 159 ? '6' : n > 153 ? "slack".charAt(n - 154) : ' '), n);
        }
        Due.due("feed: byte 161", x.feed('x'), FULL);
        Due.due("feed: byte 161 again", x.feed('x'), FULL);
        Due.due("a full TAPE", x.count(2), 160);
        Due.due("text() of a full TAPE, to its last byte", x.text(), 1);
        Due.due("what its last bytes told", x.rule(1), 6);
        Due.due("feed: THE TAPE is empty then", x.feed('x'), 1);
        takes("slack 6;" + blanks(152), 1);
    }

    /** places from 0. */
    private static void placesAreFrom0() {
        faults("$", NO_TOKEN, 0);
        faults(" $", NO_TOKEN, 1);
        faults(blanks(159) + "$", NO_TOKEN, 159);
        faults(blanks(158) + "x$", MISPLACED, 158);
        faults(blanks(157) + "123", NO_TOKEN, 157);
        faults(blanks(155) + "slack", MISPLACED, 160);
        faults("slack" + blanks(155), MISPLACED, 160);
        faults("left 4;" + blanks(153), NOT_THERE, 160);
        faults(blanks(153) + "left 0;", NOT_THERE, 160);
        faults("left 4;" + blanks(152), NOT_THERE, 159);
    }

    /** THE TAPE keeps its first n bytes: how many it had. BAD. */
    private static void endKeepsTheFirst() {
        HandLock x = new HandLock();
        Due.due("end(0) of an empty TAPE", x.end(0), 0);
        Due.due("end(1) of an empty TAPE", x.end(1), BAD);
        Due.due("end(-1) of an empty TAPE", x.end(-1), BAD);
        Due.tape(x, "slack 4;$");
        Due.due("end: one more than it has", x.end(10), BAD);
        Due.due("end: all that it has", x.end(9), 9);
        Due.due("end: one less", x.end(8), 9);
        Due.due("end: how many it has then", x.count(2), 8);
        Due.due("end: one more again", x.end(9), BAD);
        Due.due("end: what it keeps is read", x.text(), 1);
        Due.due("end: what it told", x.rule(1), 4);
        Due.tape(x, blanks(160));
        Due.due("end(161) of a full TAPE", x.end(161), BAD);
        Due.due("end(160) of a full TAPE", x.end(160), 160);
        Due.due("feed: it is full still", x.feed(32), FULL);
        Due.due("end(159) of a full TAPE", x.end(159), 160);
        Due.due("feed: one more fits", x.feed(32), 160);
        Due.due("feed: no other", x.feed(32), FULL);
        Due.due("end(0) of a full TAPE", x.end(0), 160);
        Due.due("text() of what is left: nothing", x.text(), 0);
    }

    /** TOKENS, each as long as may be, blanks between. */
    private static void tokensAreAsLongAsMayBe() {
        HandLock x = takes("plain12 34;gloved5 6;plan1 2 0;left1;slack7;", 5);
        Due.due("as long as may be: RIGHT", x.one(0, 1), 12);
        Due.due("as long as may be: LEFT", x.one(0, 2), 34);
        Due.due("as long as may be: ACTS", x.rule(3), 3);
        Due.due("as long as may be: SLACK", x.rule(1), 7);
        Due.due("as long as may be: who uses the left", x.rule(4), 2);
        x = takes("plan 11;plain 0 0;plain 0 0;plain 0 0;plain 0 0;", 5);
        Due.due("11 is one ACT", x.rule(3), 1);
        x = takes("plan 1 1;plain 0 0;", 2);
        Due.due("1 1 are two", x.rule(3), 2);
        faults("plain 34;", MISPLACED, 8);
        faults("planplan;", MISPLACED, 0);
        faults("slackslack 1;", MISPLACED, 0);
        faults("slack 1 2;", MISPLACED, 8);
        faults("slack 12;", BOUNDS, 6);
    }

    /** blanks (32) between: none, one, many; ahead of all and behind all. */
    private static void blanksAre32() {
        takes(" ", 0);
        takes(blanks(160), 0);
        takes("plain 1 2;", 1);
        takes(blanks(9) + "plain" + blanks(9) + "1" + blanks(9) + "2" + blanks(9) + ";" + blanks(9) + "slack 2;" + blanks(9), 2);
        faults("pl ain 1 2;", MISPLACED, 0);
        faults("sla ck 2;", MISPLACED, 0);
    }

    /** Each byte as a whole text: what is no TOKEN, and what can not stand there. */
    private static void everyByteAlone() {
        for (int c = 0; c <= 127; c++) {
            String text = String.valueOf((char) c);
            if (c == 32) {
                takes(text, 0);
            } else {
                boolean token = c >= 'a' && c <= 'z' || c >= '0' && c <= '9' || c == ';';
                faults(text, token ? MISPLACED : NO_TOKEN, 0);
            }
        }
    }

    /** Each byte behind a NAME: a letter makes it longer, a figure begins a NUMBER. */
    private static void everyByteBehindAName() {
        for (int c = 0; c <= 127; c++) {
            String text = "slack" + (char) c + "3;";
            if (c == 32 || c == '0') {
                Due.due("SLACK by '" + text + "'", takes(text, 1).rule(1), 3);
            } else if (c >= '1' && c <= '9') {
                faults(text, BOUNDS, 5);
            } else if (c >= 'a' && c <= 'z') {
                faults(text, MISPLACED, 0);
            } else {
                faults(text, c == ';' ? MISPLACED : NO_TOKEN, 5);
            }
        }
    }

    /** Each byte behind a NUMBER: a figure makes it longer, a letter begins a NAME. */
    private static void everyByteBehindANumber() {
        for (int c = 0; c <= 127; c++) {
            String text = "slack 0" + (char) c + ";";
            if (c == 32 || c >= '0' && c <= '9') {
                Due.due("SLACK by '" + text + "'", takes(text, 1).rule(1), c == 32 ? 0 : c - '0');
            } else if (c == ';') {
                faults(text, MISPLACED, 8);
            } else {
                faults(text, c >= 'a' && c <= 'z' ? MISPLACED : NO_TOKEN, 7);
            }
        }
    }

    /** NUMBERS (1 or 2 figures); a NUMBER that is too long (its first byte). */
    private static void numbersHaveOneOrTwoFigures() {
        Due.due("one figure", takes("slack 8;", 1).rule(1), 8);
        Due.due("two figures", takes("slack 08;", 1).rule(1), 8);
        faults("slack 008;", NO_TOKEN, 6);
        faults("slack 0000000008;", NO_TOKEN, 6);
        // Each of these would be 1 or 0 if it wrapped around.
        faults("slack 4294967297;", NO_TOKEN, 6);
        faults("slack 18446744073709551616;", NO_TOKEN, 6);
        faults("plain 100 0;", NO_TOKEN, 6);
        faults("plain 0 100;", NO_TOKEN, 8);
        faults("left 000;", NO_TOKEN, 5);
        faults("plan 0 000;", NO_TOKEN, 7);
        faults("100", NO_TOKEN, 0);
        faults("slack 1 100", NO_TOKEN, 8);
        faults("slack 1" + blanks(9) + "9".repeat(144), NO_TOKEN, 16);
    }

    /** one ; : two are two TOKENS. */
    private static void oneStop() {
        takes("slack 1;plan;", 2);
        faults("slack 1;;", MISPLACED, 8);
        faults("plan;;", MISPLACED, 5);
        faults(";slack 1;", MISPLACED, 0);
    }

    /** text: { line }: none at least; by the other bounds twelve at most. */
    private static void noLineAndTwelve() {
        HandLock x = takes("", 0);
        Due.due("no line: PEOPLE", x.rule(0), 0);
        Due.due("no line: SLACK", x.rule(1), 1);
        Due.due("no line: ACTS", x.rule(3), 0);
        x = takes("left4;left3;left2;left1;left0;slack0;plan;plain0 0;gloved0 0;child0 0;master0 0;plain0 0;", 12);
        Due.due("twelve lines: PEOPLE", x.rule(0), 5);
        Due.due("twelve lines: who uses the left", x.rule(4), 31);
        Due.due("twelve lines: SLACK", x.rule(1), 0);
    }

    /** 2 a TOKEN that can not stand there; or the end: the length. 1 no TOKEN stands nowhere. */
    private static void tokensThatCanNotStandThere() {
        String[] wantNumber = {"plain ", "gloved ", "child ", "master ", "plain 1 ", "gloved 1 ", "child 1 ", "master 1 ", "left ",
            "slack "};
        for (String ahead : wantNumber) {
            refuses(ahead, ";", MISPLACED);
            refuses(ahead, "x", MISPLACED);
            refuses(ahead, "plan", MISPLACED);
            refusesAnyway(ahead);
        }
        String[] wantStop = {"plain 1 2 ", "gloved 1 2 ", "child 1 2 ", "master 1 2 ", "left 4 ", "slack 9 "};
        for (String ahead : wantStop) {
            refuses(ahead, "1", MISPLACED);
            refuses(ahead, "x", MISPLACED);
            refuses(ahead, "plan", MISPLACED);
            refusesAnyway(ahead);
        }
        String[] wantNumberOrStop = {"plan ", "plan 0 ", "plan 0 0 0 0 0 0 0 ", "plan 0 0 0 0 0 0 0 0 "};
        for (String ahead : wantNumberOrStop) {
            refuses(ahead, "x", MISPLACED);
            refuses(ahead, "plan", MISPLACED);
            refusesAnyway(ahead);
        }
        String[] wantLine = {"", "plain 1 2;", "plain 1 2; ", "left 0;", "slack 0;", "plan;", "plan 0 ; "};
        for (String ahead : wantLine) {
            refuses(ahead, ";", MISPLACED);
            refuses(ahead, "1", MISPLACED);
            refuses(ahead, "x", MISPLACED);
            refuses(ahead, "$", NO_TOKEN);
            refuses(ahead, "123", NO_TOKEN);
        }
    }

    private static void refuses(String ahead, String token, int fault) {
        faults(ahead + token, fault, ahead.length());
        faults(ahead + token + " ;", fault, ahead.length());
        faults(ahead + "   " + token + "   $", fault, ahead.length() + 3);
    }

    /** Where a line goes on: no TOKEN, a long NUMBER, and the end, are refused. */
    private static void refusesAnyway(String ahead) {
        refuses(ahead, "$", NO_TOKEN);
        refuses(ahead, "123", NO_TOKEN);
        faults(ahead, MISPLACED, ahead.length());
        faults(ahead + "  ", MISPLACED, ahead.length() + 2);
        faults(ahead.trim(), MISPLACED, ahead.trim().length());
    }

    /** a NAME that begins no line. */
    private static void namesThatBeginNoLine() {
        String[] names = {"plain", "gloved", "child", "master", "left", "slack", "plan"};
        for (String name : names) {
            if (!name.equals("plain")) {
                faults(name.substring(0, name.length() - 1) + " 0 0;", MISPLACED, 0);
            }
            faults(name.substring(1) + " 0 0;", MISPLACED, 0);
            faults(name + "s 0 0;", MISPLACED, 0);
            faults("a" + name + " 0 0;", MISPLACED, 0);
            for (int i = 0; i < name.length(); i++) {
                faults(name.substring(0, i) + "q" + name.substring(i + 1) + " 0 0;", MISPLACED, 0);
            }
            faults(name.substring(0, 1).toUpperCase() + name.substring(1) + " 0 0;", NO_TOKEN, 0);
        }
        faults("right 0;", MISPLACED, 0);
        faults("a", MISPLACED, 0);
        faults("z", MISPLACED, 0);
        faults("plans;", MISPLACED, 0);
        faults("p".repeat(160), MISPLACED, 0);
    }

    /** K N N ;: RIGHT, LEFT are 0 to 99. */
    private static void numbersOfOnes() {
        for (int kind = 0; kind < 4; kind++) {
            HandLock x = takes(KINDS[kind] + " 0 99;" + KINDS[kind] + " 99 0;", 2);
            int[] marks = {1, 2, 0, 4};
            int[][] want = {{kind, 0, 99, 0, 0, marks[kind]}, {kind, 99, 0, 0, 99, marks[kind]}};
            for (int p = 0; p < 2; p++) {
                for (int what = 0; what < 6; what++) {
                    Due.due(KINDS[kind] + ": one(" + p + ", " + what + ")", x.one(p, what), want[p][what]);
                }
            }
            faults(KINDS[kind] + " 100 0;", NO_TOKEN, KINDS[kind].length() + 1);
            faults(KINDS[kind] + " 0 100;", NO_TOKEN, KINDS[kind].length() + 3);
        }
    }

    /** left: a ONE (0 to 4). */
    private static void numbersOfLeft() {
        String five = "child 0 0;child 0 0;child 0 0;child 0 0;child 0 0;";
        for (int p = 0; p <= 4; p++) {
            Due.due("left " + p, takes(five + "left " + p + ";", 6).rule(4), 1 << p);
        }
        for (int p = 5; p <= 99; p++) {
            faults("left " + p + ";", BOUNDS, 5);
        }
        faults(five + "left 5;", BOUNDS, 55);
        faults(five + "left 05;", BOUNDS, 55);
    }

    /** slack: SLACK (0 to 9). */
    private static void numbersOfSlack() {
        for (int v = 0; v <= 9; v++) {
            Due.due("slack " + v, takes("slack " + v + ";", 1).rule(1), v);
        }
        for (int v = 10; v <= 99; v++) {
            faults("slack " + v + ";", BOUNDS, 6);
        }
    }

    /** plan: ACTS (0 to 31). */
    private static void numbersOfPlan() {
        String five = "child 0 0;child 0 0;child 0 0;child 0 0;child 0 0;";
        for (int act = 0; act <= 31; act++) {
            Due.due("plan " + act, takes(five + "plan " + act + ";", 6).act(0), act);
        }
        for (int act = 32; act <= 99; act++) {
            faults(five + "plan " + act + ";", BOUNDS, 55);
        }
        faults("plan 0 0 0 0 0 0 0 32;", BOUNDS, 19);
    }

    /** the first met as it is read (a TOKEN is read when the one before has been taken). */
    private static void aTokenIsReadWhenTheOneBeforeHasBeenTaken() {
        String[] behind = {"$", "123", "", "x", "7", ";", " $"};
        for (String b : behind) {
            faults("name" + (b.equals("x") ? " x" : b), MISPLACED, 0);
            faults("slack 10" + (b.equals("7") || b.equals("123") ? " " + b : b), BOUNDS, 6);
            faults("left 5" + (b.equals("7") || b.equals("123") ? " " + b : b), BOUNDS, 5);
            faults("plan 32" + (b.equals("7") || b.equals("123") ? " " + b : b), BOUNDS, 5);
            faults("slack 1;slack" + (b.equals("x") ? " x" : b), AGAIN, 8);
            faults("plan;plan" + (b.equals("x") ? " x" : b), AGAIN, 5);
            faults("left 1;left 1" + (b.equals("7") || b.equals("123") ? " " + b : b), AGAIN, 12);
        }
        // Of two in one text the first.
        faults("slack 10;left 5;", BOUNDS, 6);
        faults("slack x;$", MISPLACED, 6);
        faults("plain 0 $ 10;", NO_TOKEN, 8);
        faults("plain 0 0;slack 1;slack 10;left 9;", AGAIN, 18);
    }

    /** 4 slack, plan for the second time (its NAME). */
    private static void slackAndPlanForTheSecondTime() {
        faults("slack 1;slack 1;", AGAIN, 8);
        faults("slack 1;  slack 10;", AGAIN, 10);
        faults("plan;plan;", AGAIN, 5);
        faults("plan 0;slack 1;plan 0;", AGAIN, 15);
        faults("slack 1;plan;plain 0 0;slack 1;", AGAIN, 23);
        takes("slack 1;plan;", 2);
        // A new text may tell both again.
        HandLock x = takes("slack 1;plan 0;", 2);
        Due.tape(x, "slack 2;plan 0 0;");
        Due.due("slack and plan in the next text", x.text(), 2);
        Due.due("SLACK by the next text", x.rule(1), 2);
        Due.due("THE PLAN by the next text", x.rule(3), 2);
    }

    /** a ONE that is told to use the left already (it). */
    private static void leftAlready() {
        faults("plain 0 0;left 0;left 0;", AGAIN, 22);
        faults("plain 0 0;left 0;left 00;", AGAIN, 22);
        faults("left 4;left 0;left 4;", AGAIN, 19);
        // Whether there is such a ONE or not.
        faults("left 3;left 3;", AGAIN, 12);
        Due.due("two other ONES", takes("child 0 0;child 0 0;left 1;left 0;", 4).rule(4), 3);
        HandLock x = takes("child 0 0;left 0;", 2);
        Due.tape(x, "child 0 0;left 0;");
        Due.due("left 0 in the next text", x.text(), 2);
    }

    /** 5 the 6th ONE (its NAME). */
    private static void theSixthOne() {
        String five = "plain 0 1;gloved 2 3;child 4 5;master 6 7;plain 8 9;";
        HandLock x = takes(five, 5);
        int[][] want = {{0, 0, 1}, {1, 2, 3}, {2, 4, 5}, {3, 6, 7}, {0, 8, 9}};
        for (int p = 0; p < 5; p++) {
            for (int what = 0; what < 3; what++) {
                Due.due("five: one(" + p + ", " + what + ")", x.one(p, what), want[p][what]);
            }
            Due.due("five: HAND of " + p, x.one(p, 3), 0);
        }
        Due.due("five: no sixth", x.one(5, 0), BAD);
        for (String kind : KINDS) {
            faults(five + kind + " 0 0;", TOO_MANY, 52);
            faults(five + kind + "$", TOO_MANY, 52);
            faults(five + kind, TOO_MANY, 52);
            faults(five + "slack 1; " + kind + " 100", TOO_MANY, 61);
        }
        faults(five + "plains", MISPLACED, 52);
    }

    /** a 9th ACT (it, whether it is one or not). */
    private static void theNinthAct() {
        String eight = "plan 0 1 0 1 0 1 0 1 ";
        HandLock x = takes("plain 0 0;" + eight + ";", 2);
        Due.due("eight ACTS", x.rule(3), 8);
        Due.due("the eighth", x.act(7), 1);
        Due.due("no ninth", x.act(8), BAD);
        int[] ninth = {0, 1, 31, 32, 99};
        for (int act : ninth) {
            faults(eight + act + ";", TOO_MANY, 21);
            faults(eight + act, TOO_MANY, 21);
            faults(eight + act + " $", TOO_MANY, 21);
        }
        faults("plan 0 0 0 0 0 0 0 32 0;", BOUNDS, 19);
    }

    /** 6 a ONE that there is not: by left and by plan, one more than there are. */
    private static void aOneThatThereIsNot() {
        StringBuilder people = new StringBuilder();
        for (int n = 0; n <= 4; n++) {
            String text = people + "left " + n + ";";
            faults(text, NOT_THERE, text.length());
            text = "left " + n + ";" + people;
            faults(text, NOT_THERE, text.length());
            for (int act = 0; act <= 31; act++) {
                text = people + "plan 0 " + act + ";";
                if (act >= 1 << n) {
                    faults(text, NOT_THERE, text.length());
                } else {
                    Due.due("plan of " + n, takes(text, n + 1).act(1), act);
                }
            }
            people.append("child 0 0;");
            Due.due("left of " + (n + 1), takes(people + "left " + n + ";", n + 2).rule(4), 1 << n);
            Due.due("left ahead of " + (n + 1), takes("left " + n + ";" + people, n + 2).rule(4), 1 << n);
        }
    }

    /** Behind all (the length): 6. */
    private static void aOneThatThereIsNotIsFoundBehindAll() {
        faults("left 0;", NOT_THERE, 7);
        faults("left 0;   ", NOT_THERE, 10);
        faults("plan 1;", NOT_THERE, 7);
        faults("plan 1;$", NO_TOKEN, 7);
        faults("plan 1;x", MISPLACED, 7);
        faults("plan 1;slack 10;", BOUNDS, 13);
        faults("plan 1;left 0;plan", AGAIN, 14);
        faults("left 0;slack", MISPLACED, 12);
        Due.due("the ONE comes behind its left", takes("left 0;plan 1;slack 0;plain 5 6;", 4).one(0, 4), 6);
    }

    /** A text that is taken tells all, in place of what there was. */
    private static void aTakenTextTellsAll() {
        HandLock x = told();
        Due.tape(x, "child 3 4;");
        Due.due("text: one line", x.text(), 1);
        int[] rules = {1, 1, 0, 0, 0, 3, 1};
        for (int what = 0; what < rules.length; what++) {
            Due.due("text: rule(" + what + ") of what is told, the rest as at first", x.rule(what), rules[what]);
        }
        int[] one = {2, 3, 4, 0, 3, 0};
        for (int what = 0; what < one.length; what++) {
            Due.due("text: one(0, " + what + ")", x.one(0, what), one[what]);
        }
        Due.due("text: no second ONE", x.one(1, 0), BAD);
        Due.due("text: no ACT", x.act(0), BAD);
        x = told();
        Due.due("text: nothing", x.text(), 0);
        Due.due("text: nobody", x.rule(0), 0);
        Due.due("text: the least COUNT of nobody", x.rule(5), NONE);
        Due.due("text: SLACK as at first", x.rule(1), 1);
    }

    /** nothing is SEEN; IMAGES are gone; THE TAPE (empty then). */
    private static void aTakenTextEmptiesTheRest() {
        HandLock x = told();
        x.keep(1);
        for (int n = 2; n <= 6; n++) {
            x.see(1, NONE);
        }
        Due.due("text: six were SEEN", x.count(0), 6);
        Due.due("text: there were two IMAGES", x.count(1), 2);
        x.feed(' ');
        Due.due("text: no line", x.text(), 0);
        Due.due("text: THE TAPE is empty", x.count(2), 0);
        Due.due("text: nothing is SEEN", x.count(0), 0);
        Due.due("text: no IMAGE", x.count(1), 0);
        Due.due("text: IMAGE 0 is gone", x.back(0), STATE);
        Due.due("text: IMAGE 1 is gone", x.back(1), STATE);
        Due.due("text: there was none to keep", x.keep(0), 0);
    }

    /** that which was told stays (and what is SEEN, IMAGES; THE TAPE is empty). */
    private static void aRefusedTextLeavesAll() {
        String[] texts = {"child 0 0;$", "slack 9;x", "plan 0 0;left 7;", "slack 2;slack 3;", "plan 0 0 0 0 0 0 0 0 0;", "plan 31;",
            "child 9 9;child 9 9;child 9 9;child 9 9;left 4;slack 9;plan 0 0 0 0;"};
        for (String text : texts) {
            HandLock x = told();
            Due.tape(x, text);
            Due.isTrue("'" + text + "' is refused", x.text() <= -10);
            Due.due("'" + text + "': THE TAPE is empty", x.count(2), 0);
            Due.row("all behind '" + text + "'", allOf(x), standing);
        }
    }

    /** The FAULT of the latest text(); 0. */
    private static void theFaultOfTheLatestText() {
        HandLock x = new HandLock();
        Due.due("fault: no text() yet", x.fault(), 0);
        String[] texts = {"$", "x", "slack 10;", "slack 1;slack 1;", "plan 0 0 0 0 0 0 0 0 0;", "left 0;", "slack 1;", "left 0;", ""};
        int[] faults = {1, 2, 3, 4, 5, 6, 0, 6, 0};
        for (int i = 0; i < texts.length; i++) {
            int earlier = x.fault();
            Due.tape(x, texts[i]);
            x.end(texts[i].length());
            x.feed(-1);
            Due.due("fault: until text()", x.fault(), earlier);
            x.text();
            Due.due("fault of '" + texts[i] + "'", x.fault(), faults[i]);
            x.slack(10);
            x.keep(0);
            x.back(0);
            x.read(0, 0, 0, 1);
            Due.due("fault of '" + texts[i] + "' still", x.fault(), faults[i]);
        }
    }
}
