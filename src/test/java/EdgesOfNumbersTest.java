/**
 * Every number of every call: its least and its greatest are taken; one below, one above and far outside it is BAD,
 * and what is refused changes nothing, as is nothing by asking.
 */
public final class EdgesOfNumbersTest {
    private static final int BAD = -1, STATE = -2, FULL = -3, NONE = -4;
    private static final int MIN = Integer.MIN_VALUE, MAX = Integer.MAX_VALUE;
    /** Far outside of any bounds; some wrap around to numbers within if they are cut to a byte or a short. */
    private static final int[] FAR = {MIN, MIN + 1, MIN + 10, -65535, -65536, -257, -256, -255, -100, 161, 256, 257, 1000, 65536,
        65537, 1 << 30, MAX - 1, MAX};

    /** All that the rich lock holds, when nothing has been asked of it. */
    private static String before;

    private EdgesOfNumbersTest() {
    }

    public static void main(String[] args) {
        before = Rich.all(Rich.lock());
        theText();
        whatIsChanged();
        tries();
        whatIsBest();
        whoStaysAway();
        howOften();
        bySeed();
        images();
        sheets();
        howMany();
        theFirstThatFits();
        otherRefusals();
        askingChangesNothing();
        Due.finish();
    }

    /** A call on a lock of its own that must leave all as it was. */
    private static void leaves(long want, String name, int... numbers) {
        HandLock x = Rich.lock();
        String label = Ask.label(name, numbers);
        Due.due(label, Ask.ask(x, name, numbers), want);
        Due.row(label + " changes nothing:", Rich.all(x), before);
    }

    private static void isTaken(String name, int... numbers) {
        long got = Ask.ask(Rich.lock(), name, numbers);
        Due.isTrue(Ask.label(name, numbers) + " answered " + got + ", not BAD is due", got != BAD);
    }

    private static int[] with(int[] numbers, int at, int v) {
        int[] changed = numbers.clone();
        changed[at] = v;
        return changed;
    }

    private static void below(String name, int at, int least, int... numbers) {
        isTaken(name, with(numbers, at, least));
        leaves(BAD, name, with(numbers, at, least - 1));
        for (int far : FAR) {
            if (far < least - 1) {
                leaves(BAD, name, with(numbers, at, far));
            }
        }
    }

    private static void above(String name, int at, int most, int... numbers) {
        isTaken(name, with(numbers, at, most));
        leaves(BAD, name, with(numbers, at, most + 1));
        for (int far : FAR) {
            if (far > most + 1) {
                leaves(BAD, name, with(numbers, at, far));
            }
        }
    }

    /** The number at this place goes from least to most; the others are good. */
    private static void bounds(String name, int at, int least, int most, int... numbers) {
        below(name, at, least, numbers);
        above(name, at, most, numbers);
    }

    private static void theText() {
        bounds("feed", 0, 0, 127, 0);
        bounds("end", 0, 0, Rich.TAPE, 0);
        bounds("rule", 0, 0, 6, 0);
        bounds("one", 0, 0, Rich.PEOPLE - 1, 0, 0);
        bounds("one", 1, 0, 5, 0, 0);
        bounds("one", 1, 0, 5, 4, 0);
        bounds("act", 0, 0, Rich.ACTS - 1, 0);
    }

    private static void whatIsChanged() {
        int[] most = {3, 99, 99, 1};
        for (int what = 0; what <= 3; what++) {
            bounds("alter", 0, 0, Rich.PEOPLE - 1, 0, what, 0);
            bounds("alter", 2, 0, most[what], 0, what, 0);
            bounds("alter", 2, 0, most[what], 4, what, 0);
        }
        bounds("alter", 1, 0, 3, 0, 0, 0);
        bounds("slack", 0, 0, 9, 0);
        bounds("plan", 0, 0, 31, 0);
        bounds("cut", 0, 0, Rich.ACTS, 0);
    }

    private static void tries() {
        bounds("turn", 0, 1, 31, 0);
        bounds("rest", 0, 0, 99, 0);
        bounds("runs", 0, 0, 3, 0);
        bounds("ahead", 0, 0, Rich.PEOPLE - 1, 0);
    }

    private static void whatIsBest() {
        int[] whats = {0, 10, 14};
        for (int what : whats) {
            bounds("order", 0, 1, 31, 0, what);
            bounds("await", 0, 0, Rich.PEOPLE - 1, 0, what);
        }
        // what: 0, or 10 and i; between them there is none.
        below("order", 1, 0, 31, 0);
        below("await", 1, 0, 0, 0);
        for (int what = 1; what <= 9; what++) {
            leaves(BAD, "order", 31, what);
            leaves(BAD, "await", 0, what);
        }
        isTaken("order", 31, 10);
        isTaken("await", 3, 10);
        bounds("hands", 0, 0, 1, 0);
        bounds("clean", 0, 0, 1, 0);
        bounds("trade", 0, 0, 1, 0);
    }

    private static void whoStaysAway() {
        bounds("mean", 0, 0, 10, 0, 0);
        bounds("mean", 0, 0, 10, 0, 1);
        bounds("mean", 1, 0, 1, 5, 0);
        bounds("luck", 0, 0, 10, 0, 0, 0);
        bounds("luck", 1, 0, Rich.PEOPLE - 1, 5, 0, 0);
        bounds("luck", 2, 0, 1, 5, 0, 0);
        leaves(BAD, "luck", 5, NONE, 0);
    }

    private static void howOften() {
        bounds("see", 0, 0, 7, 0, 0);
        bounds("see", 0, 0, 7, 0, NONE);
        above("see", 1, Rich.PEOPLE - 1, 0, 0);
        isTaken("see", 0, NONE);
        // Below 0 nobody is told by NONE alone.
        int[] nobody = {BAD, STATE, FULL, -5, -6, -10, MIN};
        for (int p : nobody) {
            leaves(BAD, "see", 0, p);
        }
        bounds("forget", 0, 0, Rich.SEEN, 0);
        bounds("counts", 0, 0, Rich.PEOPLE - 1, 0, 0);
        bounds("counts", 1, 0, 2, 0, 0);
        bounds("look", 0, 0, Rich.PEOPLE - 1, 0, 0);
        bounds("look", 1, 0, 1, 0, 0);
        leaves(BAD, "counts", NONE, 0);
        leaves(BAD, "look", NONE, 0);
    }

    private static void bySeed() {
        bounds("drift", 1, 1, 60, 7, 1, 0);
        bounds("drift", 2, 0, 1, 7, 1, 0);
        for (int seed : FAR) {
            isTaken("drift", seed, 60, 0);
            isTaken("drift", seed, 60, 1);
        }
    }

    private static void images() {
        bounds("keep", 0, 0, 1, 0);
        bounds("back", 0, 0, 1, 0);
    }

    private static void sheets() {
        bounds("sheet", 0, 0, 3, 0, 0, 1);
        bounds("sheet", 1, 0, 2, 0, 0, 1);
        above("sheet", 2, 40, 0, 0, 0);
        isTaken("sheet", 0, 0, 0);
        bounds("lay", 0, 0, 3, 0, 0, 1);
        bounds("read", 0, 0, 3, 0, 0, 0, 1);
        bounds("read", 1, 0, 2, 0, 0, 0, 1);
        bounds("read", 3, 0, 20, 0, 0, 0, 1);
        // SIZE: below 0.
        int[] sizes = {-1, -2, -40, -41, -65536, MIN, MIN + 1};
        for (int n : sizes) {
            leaves(-14, "sheet", 0, 0, n);
            leaves(-14, "sheet", 3, 2, n);
        }
        // INDEX, for a SHEET of some CELLS and for one of none; NULL.
        for (int k = 0; k <= 2; k++) {
            int[] outside = {-1, -2, Rich.CELLS[k], Rich.CELLS[k] + 1, 40, 256, 65536, MIN, MAX};
            for (int i : outside) {
                leaves(-12, "lay", k, i, 1);
            }
        }
        int[] anywhere = {0, -1, 1, 39, 40, MIN, MAX};
        for (int i : anywhere) {
            leaves(-11, "lay", 3, i, 1);
        }
    }

    private static void howMany() {
        bounds("count", 0, 0, 5, 0);
    }

    /** "the first that fits": BAD is told ahead of STATE, FULL, NONE and of what the machine finds. */
    private static void theFirstThatFits() {
        HandLock x = Due.told("plain 5 0;child 0 0;slack 0;plan 1 1 1 1 1 1 1 1;");
        Due.due("plan: FULL", x.plan(0), FULL);
        Due.due("plan: FULL, BAD ahead of it", x.plan(4), BAD);
        for (int n = 1; n <= 6; n++) {
            Due.due("see: " + n, x.see(0, NONE), n);
        }
        Due.due("see: FULL", x.see(0, NONE), FULL);
        Due.due("see: FULL, BAD i ahead of it", x.see(8, NONE), BAD);
        Due.due("see: FULL, BAD p ahead of it", x.see(0, 2), BAD);
        Due.due("counts: NONE", x.counts(1, 1), 0);
        Due.due("await: NONE", x.await(0, 10), NONE);
        Due.due("await: NONE, BAD ahead of it", x.await(0, 9), BAD);
        Due.due("runs: BAD what", x.runs(4), BAD);
        while (x.count(2) < 160) {
            x.feed(32);
        }
        Due.due("feed: FULL", x.feed(32), FULL);
        Due.due("feed: FULL, BAD ahead of it", x.feed(-1), BAD);
        HandLock nobody = new HandLock();
        Due.due("drift: STATE", nobody.drift(1, 1, 0), STATE);
        Due.due("drift: STATE, BAD n ahead of it", nobody.drift(1, 0, 0), BAD);
        Due.due("drift: STATE, BAD n above ahead of it", nobody.drift(1, 61, 0), BAD);
        Due.due("drift: STATE, BAD what ahead of it", nobody.drift(1, 1, 2), BAD);
        Due.due("back: STATE", nobody.back(1), STATE);
        Due.due("back: STATE, BAD ahead of it", nobody.back(2), BAD);
        Due.due("rest: NONE", nobody.rest(0), NONE);
        Due.due("rest: NONE, BAD ahead of it", nobody.rest(-1), BAD);
        Due.due("clean: NONE, BAD ahead of it", nobody.clean(2), BAD);
        Due.due("trade: NONE, BAD ahead of it", nobody.trade(2), BAD);
        Due.due("sheet: SIZE, BAD k ahead of it", nobody.sheet(4, 0, -1), BAD);
        Due.due("sheet: SIZE, BAD lane ahead of it", nobody.sheet(0, 3, -1), BAD);
        Due.due("lay: NULL, BAD ahead of it", nobody.lay(4, 0, 0), BAD);
        Due.due("read: NULL, BAD lane ahead of it", nobody.read(0, 3, 0, 1), BAD);
        Due.due("read: NULL, BAD n ahead of it", nobody.read(0, 0, 0, 21), BAD);
    }

    /** Refusals that are not BAD change nothing, either. */
    private static void otherRefusals() {
        HandLock full = Rich.lock();
        HandLock twin = Rich.lock();
        Due.due("plan: 7", full.plan(1), 7);
        Due.due("plan: 8", full.plan(0), 8);
        Due.due("plan: FULL", full.plan(1), FULL);
        twin.plan(1);
        twin.plan(0);
        Due.row("a FULL plan changes nothing:", Rich.all(full), Rich.all(twin));
        full = Rich.lock();
        twin = Rich.lock();
        for (int n = 3; n <= 6; n++) {
            Due.due("see: " + n, full.see(0, 0), n);
            twin.see(0, 0);
        }
        Due.due("see: FULL", full.see(1, 1), FULL);
        Due.row("a FULL see changes nothing:", Rich.all(full), Rich.all(twin));
        HandLock x = Due.told("plain 5 0;plan 1;");
        String picture = Due.picture(x);
        Due.due("back: STATE", x.back(0), STATE);
        Due.row("a back() of none changes nothing:", Due.picture(x), picture);
        // 160 bytes that are taken; a byte more would be a FAULT.
        HandLock tape = new HandLock();
        Due.tape(tape, "slack 5;");
        while (tape.count(2) < 160) {
            tape.feed(32);
        }
        Due.due("feed: FULL", tape.feed('$'), FULL);
        Due.due("a FULL feed changes nothing", tape.text(), 1);
        // A TRY that is BAD in a SHEET: those ahead of it are not tried, either.
        HandLock y = Rich.lock();
        y.lay(0, 2, 32);
        HandLock z = Rich.lock();
        z.lay(0, 2, 32);
        Due.due("read: the third is BAD", y.read(0, 0, 0, 3), -22);
        Due.row("a BAD TRY in a SHEET changes nothing:", Rich.all(y), Rich.all(z));
    }

    /** What is asked by itself, or by THE PLAN, changes nothing. */
    private static void askingChangesNothing() {
        String[] names = {"rule", "act", "runs", "ahead", "hands", "clean", "trade", "count"};
        for (String name : names) {
            for (int what = 0; what <= 6; what++) {
                asked(name, what);
            }
        }
        String[] plain = {"fault", "round", "loose", "slacks", "torn"};
        for (String name : plain) {
            asked(name);
        }
        for (int p = 0; p < Rich.PEOPLE; p++) {
            for (int what = 0; what <= 2; what++) {
                asked("one", p, what);
                asked("counts", p, what);
                asked("look", p, what);
                asked("mean", 3 * p, what);
                asked("luck", 4, p, what);
                asked("drift", p, 60, what);
            }
            asked("order", 31 - p, 0);
            asked("order", 31 - p, 10);
            asked("await", p, 0);
            asked("await", p, 10);
        }
    }

    private static void asked(String name, int... numbers) {
        HandLock x = Rich.lock();
        long first = Ask.ask(x, name, numbers);
        Due.due(Ask.label(name, numbers) + " once more", Ask.ask(x, name, numbers), first);
        Due.row(Ask.label(name, numbers) + " changes nothing:", Rich.all(x), before);
    }
}
