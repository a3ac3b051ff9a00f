import java.util.Arrays;

/** A lock that remembers hands: of those who try it opens to whoever has turned it least. */
public final class HandLock {
    public static final int BAD = -1, STATE = -2, FULL = -3, NONE = -4;

    private static final int MOST_PEOPLE = 5;
    private static final int MOST_TURNED = 99;
    private static final int MOST_SLACK = 9;
    private static final int FIRST_SLACK = 1;
    private static final int MOST_TRIED = 999;
    private static final int MOST_ACTS = 8;
    private static final int EVERYBODY = (1 << MOST_PEOPLE) - 1;
    private static final int TAPE_BYTES = 160;
    private static final int LAST_BYTE = 127;
    private static final int MOST_RESTS = 99;
    private static final int MOST_ROUNDS = 60;
    private static final int MOST_AHEAD = 4;
    private static final int MOST_SEEN = 6;
    private static final int LAST_GUESS = 20;
    private static final int MOST_DRIFTS = 60;
    private static final int IMAGES = 2;
    private static final int SHEETS = 4;
    private static final int MOST_CELLS = 40;
    private static final int MOST_READ = 20;
    private static final int TENTHS = 10;
    /** Where the whats that ask for the i-th of a row begin. */
    private static final int FIRST_OF_ROW = 10;

    private static final int PLAIN = 0, GLOVED = 1, CHILD = 2, MASTER = 3;
    private static final int RIGHT_HAND = 0, LEFT_HAND = 1;
    private static final int NULL_FAULT = 1, INDEX_FAULT = 2, CAST_FAULT = 3, SIZE_FAULT = 4;
    private static final int BYTES = 0, SHORTS = 1, INTS = 2;

    private final Reader reader = new Reader();
    private final Lock now = new Lock();
    private final Rehearsal rehearsal = new Rehearsal();
    private final Search search = new Search();
    private final Sightings seen = new Sightings();
    private final Lock[] images = new Lock[IMAGES];
    private final boolean[] kept = new boolean[IMAGES];
    private final Sheet[] sheets = new Sheet[SHEETS];
    private int torn;

    public HandLock() {
        for (int k = 0; k < IMAGES; k++) {
            images[k] = new Lock();
        }
        for (int k = 0; k < SHEETS; k++) {
            sheets[k] = new Sheet();
        }
    }

    // ---- the text, what there is

    public int feed(int c) {
        if (c < 0 || c > LAST_BYTE) {
            return BAD;
        }
        if (reader.length >= TAPE_BYTES) {
            return FULL;
        }
        reader.tape[reader.length] = (byte) c;
        reader.length++;
        return reader.length;
    }

    public int end(int n) {
        if (n < 0 || n > reader.length) {
            return BAD;
        }
        int had = reader.length;
        reader.length = n;
        return had;
    }

    public int text() {
        boolean taken = reader.readAll();
        reader.length = 0;
        if (!taken) {
            return -10 - reader.faultPlace;
        }
        now.become(reader.draft);
        seen.size = 0;
        for (int k = 0; k < IMAGES; k++) {
            kept[k] = false;
        }
        return reader.lines;
    }

    public int fault() {
        return reader.fault;
    }

    public int rule(int what) {
        switch (what) {
            case 0: return now.people;
            case 1: return now.slack;
            case 2: return now.tried;
            case 3: return now.acts;
            case 4: return now.lefts();
            case 5: return now.least();
            case 6: return now.welcome();
            default: return BAD;
        }
    }

    public int one(int p, int what) {
        if (!now.has(p)) {
            return BAD;
        }
        Person person = now.folk[p];
        switch (what) {
            case 0: return person.kind;
            case 1: return person.right;
            case 2: return person.left;
            case 3: return person.hand;
            case 4: return person.turned();
            case 5: return person.marks();
            default: return BAD;
        }
    }

    public int act(int i) {
        return i < 0 || i >= now.acts ? BAD : now.plan[i];
    }

    // ---- what is changed

    public int alter(int p, int what, int v) {
        if (!now.has(p) || what < 0 || what > 3 || v < 0 || v > mostOf(what)) {
            return BAD;
        }
        int was = one(p, what);
        Person person = now.folk[p];
        switch (what) {
            case 0: person.kind = v; break;
            case 1: person.right = v; break;
            case 2: person.left = v; break;
            default: person.hand = v; break;
        }
        return was;
    }

    private static int mostOf(int what) {
        switch (what) {
            case 0: return MASTER;
            case 3: return LEFT_HAND;
            default: return MOST_TURNED;
        }
    }

    public int slack(int v) {
        if (v < 0 || v > MOST_SLACK) {
            return BAD;
        }
        int was = now.slack;
        now.slack = v;
        return was;
    }

    public int plan(int act) {
        if (act != 0 && !now.hasAll(act)) {
            return BAD;
        }
        if (now.acts >= MOST_ACTS) {
            return FULL;
        }
        now.plan[now.acts] = act;
        now.acts++;
        return now.acts;
    }

    public int cut(int n) {
        if (n < 0 || n > now.acts) {
            return BAD;
        }
        int had = now.acts;
        now.acts = n;
        return had;
    }

    // ---- tries

    public int turn(int some) {
        return now.hasAll(some) ? now.attempt(some) : BAD;
    }

    public int rest(int n) {
        if (n < 0 || n > MOST_RESTS) {
            return BAD;
        }
        for (int i = 0; i < n; i++) {
            now.calm();
        }
        return now.least();
    }

    public int runs(int what) {
        if (what < 0 || what > 3) {
            return BAD;
        }
        rehearse();
        switch (what) {
            case 0: return rehearsal.opened;
            case 1: return rehearsal.who;
            case 2: return rehearsal.shut;
            default: return rehearsal.stage.greatest();
        }
    }

    public int ahead(int p) {
        if (!now.has(p)) {
            return BAD;
        }
        rehearse();
        return rehearsal.stage.folk[p].turned();
    }

    public int round() {
        rehearsal.stage.become(now);
        for (int r = 1; r <= MOST_ROUNDS; r++) {
            rehearsal.play(EVERYBODY);
            if (rehearsal.shut != NONE) {
                return r;
            }
        }
        return NONE;
    }

    /** THE PLAN from now on, all else as it is: how many TRIES let somebody in. */
    private int rehearse() {
        rehearsal.stage.become(now);
        return rehearsal.play(EVERYBODY);
    }

    // ---- what is best

    public int order(int some, int what) {
        if (!now.hasAll(some) || !asksForRow(what)) {
            return BAD;
        }
        search.bestOrder(now, some);
        return what == 0 ? search.most : search.inRow(what - FIRST_OF_ROW);
    }

    public int await(int p, int what) {
        if (!now.has(p) || !asksForRow(what)) {
            return BAD;
        }
        if (!search.shortestWait(now, p)) {
            return NONE;
        }
        return what == 0 ? search.size : search.inRow(what - FIRST_OF_ROW);
    }

    private static boolean asksForRow(int what) {
        return what == 0 || what >= FIRST_OF_ROW;
    }

    public int hands(int what) {
        if (what < 0 || what > 1) {
            return BAD;
        }
        int best = 0;
        int most = -1;
        for (int lefts = 0; lefts < 1 << now.people; lefts++) {
            rehearsal.stage.become(now);
            rehearsal.stage.useHands(lefts);
            int opened = rehearsal.play(EVERYBODY);
            if (opened > most) {
                most = opened;
                best = lefts;
            }
        }
        return what == 0 ? best : most;
    }

    public int clean(int what) {
        if (what < 0 || what > 1) {
            return BAD;
        }
        int best = NONE;
        int most = rehearse();
        for (int p = 0; p < now.people; p++) {
            int opened = rehearseWith(p, 0);
            if (opened > most) {
                most = opened;
                best = p;
            }
        }
        return what == 0 || best == NONE ? best : most;
    }

    /** THE PLAN as if a ONE had this COUNT: how many TRIES let somebody in. */
    private int rehearseWith(int p, int turned) {
        rehearsal.stage.become(now);
        rehearsal.stage.folk[p].setTurned(turned);
        return rehearsal.play(EVERYBODY);
    }

    public int trade(int what) {
        if (what < 0 || what > 1) {
            return BAD;
        }
        int best = NONE;
        int most = rehearse();
        for (int p = 0; p < now.people; p++) {
            for (int q = p + 1; q < now.people; q++) {
                rehearsal.stage.become(now);
                rehearsal.stage.swapTurned(p, q);
                int opened = rehearsal.play(EVERYBODY);
                if (opened > most) {
                    most = opened;
                    best = 10 * p + q;
                }
            }
        }
        return what == 0 || best == NONE ? best : most;
    }

    public int loose() {
        for (int v = 0; v <= MOST_SLACK; v++) {
            rehearseSlack(v);
            if (rehearsal.shut == NONE) {
                return v;
            }
        }
        return NONE;
    }

    private void rehearseSlack(int v) {
        rehearsal.stage.become(now);
        rehearsal.stage.slack = v;
        rehearsal.play(EVERYBODY);
    }

    // ---- who stays away

    public long mean(int v, int what) {
        if (v < 0 || v > TENTHS || what < 0 || what > 1) {
            return BAD;
        }
        long sum = 0;
        for (int away = 0; away < 1 << now.people; away++) {
            sum += odds(away, v) * rehearseWithout(away);
        }
        return partOfFraction(sum, allOdds(), what);
    }

    public long luck(int v, int p, int what) {
        if (v < 0 || v > TENTHS || !now.has(p) || what < 0 || what > 1) {
            return BAD;
        }
        long sum = 0;
        for (int away = 0; away < 1 << now.people; away++) {
            rehearseWithout(away);
            if ((rehearsal.who >> p & 1) != 0) {
                sum += odds(away, v);
            }
        }
        return partOfFraction(sum, allOdds(), what);
    }

    private int rehearseWithout(int away) {
        rehearsal.stage.become(now);
        return rehearsal.play(EVERYBODY & ~away);
    }

    /** How likely just these stay away, out of allOdds(). */
    private long odds(int away, int v) {
        long product = 1;
        for (int p = 0; p < now.people; p++) {
            product *= (away >> p & 1) != 0 ? v : TENTHS - v;
        }
        return product;
    }

    private long allOdds() {
        long product = 1;
        for (int p = 0; p < now.people; p++) {
            product *= TENTHS;
        }
        return product;
    }

    /** The numerator (what 0) or the denominator of above / below in lowest terms; below is not 0. */
    private static long partOfFraction(long above, long below, int what) {
        long divisor = commonDivisor(below, above);
        long part = what == 0 ? above : below;
        return divisor == 0 ? part : part / divisor;
    }

    private static long commonDivisor(long a, long b) {
        long big = a;
        long small = b;
        // 100 steps are more than Euclid needs for any two longs.
        for (int i = 0; i < 100 && small != 0; i++) {
            long rest = big % small;
            big = small;
            small = rest;
        }
        return big;
    }

    // ---- how often one has turned it

    public int see(int i, int p) {
        if (i < 0 || i >= MOST_ACTS || p != NONE && !now.has(p)) {
            return BAD;
        }
        if (seen.size >= MOST_SEEN) {
            return FULL;
        }
        seen.note(i, p);
        return seen.size;
    }

    public int forget(int n) {
        if (n < 0 || n > seen.size) {
            return BAD;
        }
        int had = seen.size;
        seen.size = n;
        return had;
    }

    public int counts(int p, int what) {
        if (!now.has(p) || what < 0 || what > 2) {
            return BAD;
        }
        int many = 0;
        int least = NONE;
        int greatest = NONE;
        for (int c = 0; c <= LAST_GUESS; c++) {
            rehearseWith(p, c);
            if (seen.fits(rehearsal)) {
                many++;
                least = least == NONE ? c : least;
                greatest = c;
            }
        }
        if (what == 0) {
            return many;
        }
        return what == 1 ? least : greatest;
    }

    public int slacks() {
        int bits = 0;
        for (int v = 0; v <= MOST_SLACK; v++) {
            rehearseSlack(v);
            if (seen.fits(rehearsal)) {
                bits |= 1 << v;
            }
        }
        return bits;
    }

    public int look(int p, int what) {
        if (!now.has(p) || what < 0 || what > 1) {
            return BAD;
        }
        int best = NONE;
        int fewest = tallyGuesses(p);
        for (int i = 0; i < now.acts; i++) {
            int left = seen.worst(i);
            if (left < fewest) {
                fewest = left;
                best = i;
            }
        }
        return what == 0 || best == NONE ? best : fewest;
    }

    /** Tallies whom each ACT lets in, over all COUNTS that fit what is SEEN: how many fit. */
    private int tallyGuesses(int p) {
        int many = 0;
        seen.clearTally();
        for (int c = 0; c <= LAST_GUESS; c++) {
            rehearseWith(p, c);
            if (seen.fits(rehearsal)) {
                many++;
                seen.addToTally(rehearsal);
            }
        }
        return many;
    }

    // ---- by a seed

    public int drift(int seed, int n, int what) {
        if (n < 1 || n > MOST_DRIFTS || what < 0 || what > 1) {
            return BAD;
        }
        int ways = (1 << now.people) - 1;
        if (ways <= 0) {
            return STATE;
        }
        Lock stage = rehearsal.stage;
        stage.become(now);
        int state = seed;
        int opened = 0;
        for (int i = 0; i < n; i++) {
            state = state * 1103515245 + 12345;
            int some = (state >> 16 & 32767) % ways + 1;
            if (stage.attempt(some) != NONE) {
                opened++;
            }
        }
        return what == 0 ? opened : stage.greatest();
    }

    // ---- images, sheets

    public int keep(int k) {
        if (k < 0 || k >= IMAGES) {
            return BAD;
        }
        int was = kept[k] ? 1 : 0;
        images[k].become(now);
        kept[k] = true;
        return was;
    }

    public int back(int k) {
        if (k < 0 || k >= IMAGES) {
            return BAD;
        }
        if (!kept[k]) {
            return STATE;
        }
        now.become(images[k]);
        return now.tried;
    }

    public int sheet(int k, int lane, int n) {
        if (k < 0 || k >= SHEETS || lane < BYTES || lane > INTS || n > MOST_CELLS) {
            return BAD;
        }
        if (n < 0) {
            return -10 - SIZE_FAULT;
        }
        sheets[k].renew(lane, n);
        return 1;
    }

    public int lay(int k, int i, int v) {
        if (k < 0 || k >= SHEETS) {
            return BAD;
        }
        int found = sheets[k].faultAt(i);
        if (found != 0) {
            return -10 - found;
        }
        sheets[k].write(i, v);
        return 1;
    }

    public int read(int k, int lane, int f, int n) {
        if (k < 0 || k >= SHEETS || lane < BYTES || lane > INTS || n < 0 || n > MOST_READ) {
            return BAD;
        }
        Sheet sheet = sheets[k];
        int found = 0;
        int sound = 0;
        // All are looked at before any is tried: a BAD one leaves all as it was.
        for (int i = 0; i < n && found == 0; i++) {
            found = sheet.faultAs(lane, f + i);
            if (found == 0) {
                if (!now.hasAll(sheet.cells[f + i])) {
                    return -20 - i;
                }
                sound = i + 1;
            }
        }
        for (int i = 0; i < sound; i++) {
            now.attempt(sheet.cells[f + i]);
        }
        torn = found;
        return sound;
    }

    public int torn() {
        return torn;
    }

    public int count(int what) {
        switch (what) {
            case 0: return seen.size;
            case 1: return (kept[0] ? 1 : 0) + (kept[1] ? 1 : 0);
            case 2: return reader.length;
            case 3: return sheets[0].there ? sheets[0].size : NONE;
            case 4: return now.allTurned();
            case 5: return now.allMarks();
            default: return BAD;
        }
    }

    /** A ONE. */
    private static final class Person {
        int kind;
        int right;
        int left;
        int hand;

        void become(Person other) {
            kind = other.kind;
            right = other.right;
            left = other.left;
            hand = other.hand;
        }

        /** COUNT: how often the hand in use has turned the lock. */
        int turned() {
            return hand == LEFT_HAND ? left : right;
        }

        void setTurned(int v) {
            if (hand == LEFT_HAND) {
                left = v;
            } else {
                right = v;
            }
        }

        int marks() {
            switch (kind) {
                case GLOVED: return 2;
                case CHILD: return 0;
                case MASTER: return 4;
                default: return 1;
            }
        }

        void enter() {
            setTurned(Math.min(MOST_TURNED, turned() + marks()));
        }

        void calm() {
            right = Math.max(0, right - 1);
            left = Math.max(0, left - 1);
        }
    }

    /** All that an IMAGE holds: PEOPLE, SLACK, TRIED, THE PLAN. */
    private static final class Lock {
        final Person[] folk = new Person[MOST_PEOPLE];
        final int[] plan = new int[MOST_ACTS];
        int people;
        int acts;
        int slack = FIRST_SLACK;
        int tried;

        Lock() {
            for (int p = 0; p < MOST_PEOPLE; p++) {
                folk[p] = new Person();
            }
        }

        void clear() {
            people = 0;
            acts = 0;
            slack = FIRST_SLACK;
            tried = 0;
        }

        void become(Lock other) {
            people = other.people;
            for (int p = 0; p < people; p++) {
                folk[p].become(other.folk[p]);
            }
            acts = other.acts;
            for (int i = 0; i < acts; i++) {
                plan[i] = other.plan[i];
            }
            slack = other.slack;
            tried = other.tried;
        }

        boolean has(int p) {
            return p >= 0 && p < people;
        }

        /** Whether these bits are ONES that there are, one at least. */
        boolean hasAll(int some) {
            return some > 0 && some < 1 << people;
        }

        /** A ONE more, with both hands as told; there is room for it. */
        void join(int kind, int right, int left) {
            Person person = folk[people];
            person.kind = kind;
            person.right = right;
            person.left = left;
            person.hand = RIGHT_HAND;
            people++;
        }

        int lefts() {
            int bits = 0;
            for (int p = 0; p < people; p++) {
                bits |= folk[p].hand << p;
            }
            return bits;
        }

        void useHands(int lefts) {
            for (int p = 0; p < people; p++) {
                folk[p].hand = lefts >> p & 1;
            }
        }

        void swapTurned(int p, int q) {
            int ofFirst = folk[p].turned();
            folk[p].setTurned(folk[q].turned());
            folk[q].setTurned(ofFirst);
        }

        /** Who of these has the least COUNT, of several the first; NONE: none of these is there. */
        private int leastOf(int some) {
            int best = NONE;
            for (int p = 0; p < people; p++) {
                if ((some >> p & 1) != 0 && (best == NONE || folk[p].turned() < folk[best].turned())) {
                    best = p;
                }
            }
            return best;
        }

        int least() {
            int fewest = NONE;
            for (int p = 0; p < people; p++) {
                int turned = folk[p].turned();
                fewest = p == 0 ? turned : Math.min(fewest, turned);
            }
            return fewest;
        }

        int greatest() {
            int most = NONE;
            for (int p = 0; p < people; p++) {
                most = Math.max(most, folk[p].turned());
            }
            return most;
        }

        int allTurned() {
            int sum = 0;
            for (int p = 0; p < people; p++) {
                sum += folk[p].turned();
            }
            return sum;
        }

        int allMarks() {
            int sum = 0;
            for (int p = 0; p < people; p++) {
                sum += folk[p].marks();
            }
            return sum;
        }

        /** Who would be LET IN, each TRYING alone. */
        int welcome() {
            int bits = 0;
            for (int p = 0; p < people; p++) {
                if (opensTo(p)) {
                    bits |= 1 << p;
                }
            }
            return bits;
        }

        boolean opensTo(int p) {
            return folk[p].turned() <= least() + slack;
        }

        /** A TRY of these: who is LET IN, or NONE. */
        int attempt(int some) {
            tried = Math.min(MOST_TRIED, tried + 1);
            int p = leastOf(some);
            if (p == NONE || folk[p].turned() > least() + slack) {
                return NONE;
            }
            folk[p].enter();
            return p;
        }

        /** A REST. */
        void calm() {
            for (int p = 0; p < people; p++) {
                folk[p].calm();
            }
        }
    }

    /** THE PLAN carried out on a stage of its own, so that nothing is changed by asking. */
    private static final class Rehearsal {
        final Lock stage = new Lock();
        /** Who is LET IN by each ACT; NONE behind THE PLAN's last one, too. */
        final int[] entered = new int[MOST_ACTS];
        int opened;
        int who;
        int shut;

        /** A ROUND on the stage as it stands, of those who are here: how many TRIES let somebody in. */
        int play(int here) {
            opened = 0;
            who = 0;
            shut = NONE;
            Arrays.fill(entered, NONE);
            for (int i = 0; i < stage.acts; i++) {
                int act = stage.plan[i];
                if (act == 0) {
                    stage.calm();
                } else if ((act & here) != 0) {
                    entered[i] = stage.attempt(act & here);
                    note(i);
                }
            }
            return opened;
        }

        private void note(int i) {
            if (entered[i] != NONE) {
                opened++;
                who |= 1 << entered[i];
            } else if (shut == NONE) {
                shut = i;
            }
        }
    }

    /** Rows of ONES that TRY alone, one behind another, looked through in their order. */
    private static final class Search {
        private final Lock stage = new Lock();
        private final int[] trial = new int[MOST_PEOPLE];
        private final int[] row = new int[MOST_PEOPLE];
        int size;
        int most;

        int inRow(int i) {
            return i < 0 || i >= size ? NONE : row[i];
        }

        /** The row of all these by which most are LET IN. */
        void bestOrder(Lock from, int some) {
            stage.become(from);
            size = Integer.bitCount(some);
            most = -1;
            arrange(some, 0, 0);
        }

        private void arrange(int left, int depth, int letIn) {
            if (depth >= size || depth >= MOST_PEOPLE) {
                takeIfBetter(letIn);
                return;
            }
            for (int p = 0; p < stage.people; p++) {
                if ((left >> p & 1) != 0) {
                    int before = stage.folk[p].turned();
                    trial[depth] = p;
                    int more = stage.attempt(1 << p) == NONE ? 0 : 1;
                    arrange(left & ~(1 << p), depth + 1, letIn + more);
                    stage.folk[p].setTurned(before);
                }
            }
        }

        private void takeIfBetter(int letIn) {
            if (letIn > most) {
                most = letIn;
                for (int i = 0; i < size; i++) {
                    row[i] = trial[i];
                }
            }
        }

        /** The shortest row of others, each LET IN, behind which a ONE is: whether there is one. */
        boolean shortestWait(Lock from, int p) {
            stage.become(from);
            for (int n = 0; n <= MOST_AHEAD; n++) {
                size = n;
                if (makesWay(p, 0)) {
                    return true;
                }
            }
            return false;
        }

        private boolean makesWay(int p, int depth) {
            if (depth >= size || depth >= MOST_AHEAD) {
                return stage.opensTo(p);
            }
            for (int q = 0; q < stage.people; q++) {
                if (q != p && stage.opensTo(q)) {
                    int before = stage.folk[q].turned();
                    row[depth] = q;
                    stage.attempt(1 << q);
                    if (makesWay(p, depth + 1)) {
                        return true;
                    }
                    stage.folk[q].setTurned(before);
                }
            }
            return false;
        }
    }

    /** What is SEEN, and a tally of who would be LET IN by each ACT. */
    private static final class Sightings {
        /** Whoever may be LET IN, and nobody. */
        private static final int OUTCOMES = MOST_PEOPLE + 1;

        private final int[] acts = new int[MOST_SEEN];
        private final int[] who = new int[MOST_SEEN];
        private final int[] tally = new int[MOST_ACTS * OUTCOMES];
        int size;

        void note(int i, int p) {
            acts[size] = i;
            who[size] = p;
            size++;
        }

        boolean fits(Rehearsal rehearsal) {
            for (int s = 0; s < size; s++) {
                if (rehearsal.entered[acts[s]] != who[s]) {
                    return false;
                }
            }
            return true;
        }

        void clearTally() {
            Arrays.fill(tally, 0);
        }

        void addToTally(Rehearsal rehearsal) {
            for (int i = 0; i < MOST_ACTS; i++) {
                int p = rehearsal.entered[i];
                tally[i * OUTCOMES + (p == NONE ? MOST_PEOPLE : p)]++;
            }
        }

        /** How many are left at the worst when this ACT has been looked at. */
        int worst(int i) {
            int most = 0;
            for (int o = 0; o < OUTCOMES; o++) {
                most = Math.max(most, tally[i * OUTCOMES + o]);
            }
            return most;
        }
    }

    /** A SHEET; its row is made once and used again. */
    private static final class Sheet {
        final int[] cells = new int[MOST_CELLS];
        boolean there;
        int lane;
        int size;

        void renew(int newLane, int newSize) {
            there = true;
            lane = newLane;
            size = newSize;
            Arrays.fill(cells, 0);
        }

        /** What the machine finds when a CELL is asked for. */
        int faultAt(int i) {
            if (!there) {
                return NULL_FAULT;
            }
            return i < 0 || i >= size ? INDEX_FAULT : 0;
        }

        /** Likewise of the SHEET taken as of a lane; nothing may be taken as of any. */
        int faultAs(int asLane, int i) {
            return there && lane != asLane ? CAST_FAULT : faultAt(i);
        }

        void write(int i, int v) {
            switch (lane) {
                case BYTES: cells[i] = (byte) v; break;
                case SHORTS: cells[i] = (short) v; break;
                default: cells[i] = v; break;
            }
        }
    }

    /** THE TAPE and how it is read, into a draft that counts only if all is taken. */
    private static final class Reader {
        private static final int END = 0, NAME = 1, NUMBER = 2, STOP = 3, BROKEN = 4;
        private static final int NO_TOKEN = 1, MISPLACED = 2, OUT_OF_BOUNDS = 3, AGAIN = 4, TOO_MANY = 5, NOT_THERE = 6;
        private static final int LEFT_WORD = 4, SLACK_WORD = 5, PLAN_WORD = 6, WORDS = 7;

        final byte[] tape = new byte[TAPE_BYTES];
        final Lock draft = new Lock();
        int length;
        int lines;
        int fault;
        int faultPlace;
        private int place;
        private int token;
        private int start;
        private int value;
        private int lefts;
        private boolean slackTold;
        private boolean planTold;

        /** Whether THE TAPE is taken: lines and draft tell it then, else fault and faultPlace. */
        boolean readAll() {
            draft.clear();
            place = 0;
            lines = 0;
            fault = 0;
            faultPlace = 0;
            lefts = 0;
            slackTold = false;
            planTold = false;
            // Every line has two bytes at least.
            for (int i = 0; i <= TAPE_BYTES; i++) {
                next();
                if (token == END) {
                    return allAreThere();
                }
                if (!readLine()) {
                    return false;
                }
                lines++;
            }
            return false;
        }

        private boolean fail(int which, int where) {
            fault = which;
            faultPlace = where;
            return false;
        }

        private boolean allAreThere() {
            int named = lefts;
            for (int i = 0; i < draft.acts; i++) {
                named |= draft.plan[i];
            }
            if (named >> draft.people != 0) {
                return fail(NOT_THERE, length);
            }
            draft.useHands(lefts);
            return true;
        }

        private boolean readLine() {
            if (token != NAME) {
                return failToken();
            }
            int word = word();
            switch (word) {
                case PLAIN:
                case GLOVED:
                case CHILD:
                case MASTER: return readOne(word);
                case LEFT_WORD: return readLeft();
                case SLACK_WORD: return readSlack();
                case PLAN_WORD: return readPlan();
                default: return fail(MISPLACED, start);
            }
        }

        private boolean failToken() {
            return fail(token == BROKEN ? NO_TOKEN : MISPLACED, start);
        }

        private boolean wantsStop() {
            next();
            return token == STOP || failToken();
        }

        private boolean wantsNumber(int most) {
            next();
            if (token != NUMBER) {
                return failToken();
            }
            return value <= most || fail(OUT_OF_BOUNDS, start);
        }

        private boolean readOne(int kind) {
            if (draft.people >= MOST_PEOPLE) {
                return fail(TOO_MANY, start);
            }
            if (!wantsNumber(MOST_TURNED)) {
                return false;
            }
            int right = value;
            if (!wantsNumber(MOST_TURNED)) {
                return false;
            }
            draft.join(kind, right, value);
            return wantsStop();
        }

        private boolean readLeft() {
            if (!wantsNumber(MOST_PEOPLE - 1)) {
                return false;
            }
            if ((lefts >> value & 1) != 0) {
                return fail(AGAIN, start);
            }
            lefts |= 1 << value;
            return wantsStop();
        }

        private boolean readSlack() {
            if (slackTold) {
                return fail(AGAIN, start);
            }
            slackTold = true;
            if (!wantsNumber(MOST_SLACK)) {
                return false;
            }
            draft.slack = value;
            return wantsStop();
        }

        private boolean readPlan() {
            if (planTold) {
                return fail(AGAIN, start);
            }
            planTold = true;
            for (int i = 0; i <= MOST_ACTS; i++) {
                next();
                if (token == STOP) {
                    return true;
                }
                if (token != NUMBER) {
                    return failToken();
                }
                if (i >= MOST_ACTS) {
                    return fail(TOO_MANY, start);
                }
                if (value > EVERYBODY) {
                    return fail(OUT_OF_BOUNDS, start);
                }
                draft.plan[i] = value;
                draft.acts = i + 1;
            }
            return false;
        }

        /** Reads the TOKEN at place: what it is, where it starts, its value. */
        private void next() {
            while (place < length && tape[place] == ' ') {
                place++;
            }
            start = place;
            value = 0;
            if (place >= length) {
                token = END;
                return;
            }
            int first = tape[place];
            place++;
            if (isLetter(first)) {
                while (place < length && isLetter(tape[place])) {
                    place++;
                }
                token = NAME;
            } else if (isFigure(first)) {
                value = first - '0';
                while (place < length && isFigure(tape[place])) {
                    value = value * 10 + tape[place] - '0';
                    place++;
                }
                // A longer one may wrap around, but its value is never looked at.
                token = place - start > 2 ? BROKEN : NUMBER;
            } else {
                token = first == ';' ? STOP : BROKEN;
            }
        }

        private static boolean isLetter(int c) {
            return c >= 'a' && c <= 'z';
        }

        private static boolean isFigure(int c) {
            return c >= '0' && c <= '9';
        }

        /** Which word the NAME is; WORDS: none. */
        private int word() {
            for (int w = 0; w < WORDS; w++) {
                if (spells(wordText(w))) {
                    return w;
                }
            }
            return WORDS;
        }

        private boolean spells(String text) {
            if (place - start != text.length()) {
                return false;
            }
            for (int i = 0; i < text.length(); i++) {
                if (tape[start + i] != text.charAt(i)) {
                    return false;
                }
            }
            return true;
        }

        /** The first four stand by KIND. */
        private static String wordText(int w) {
            switch (w) {
                case PLAIN: return "plain";
                case GLOVED: return "gloved";
                case CHILD: return "child";
                case MASTER: return "master";
                case LEFT_WORD: return "left";
                case SLACK_WORD: return "slack";
                default: return "plan";
            }
        }
    }
}
