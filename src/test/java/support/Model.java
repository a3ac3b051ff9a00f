import java.math.BigInteger;
import java.util.ArrayList;
import java.util.Arrays;
import java.util.Collections;
import java.util.HashMap;
import java.util.List;
import java.util.Map;
import java.util.regex.Matcher;
import java.util.regex.Pattern;

/**
 * The document once more, by other means (regular expressions, lists, all rows written out, the machine's own
 * exceptions), so that a slip in the class is not repeated here.
 */
final class Model {
    static final int BAD = -1, STATE = -2, FULL = -3, NONE = -4;

    private static final class Refused extends RuntimeException {
        private static final long serialVersionUID = 1L;
        final int place;
        final int fault;

        Refused(int fault, int place) {
            this.fault = fault;
            this.place = place;
        }
    }

    /** kind, right, left, hand of each; the rest beside it. */
    private static final class World {
        List<int[]> folk = new ArrayList<>();
        int slack = 1;
        int tried = 0;
        List<Integer> plan = new ArrayList<>();

        World copy() {
            World w = new World();
            for (int[] one : folk) {
                w.folk.add(one.clone());
            }
            w.slack = slack;
            w.tried = tried;
            w.plan = new ArrayList<>(plan);
            return w;
        }

        int turned(int p) {
            return folk.get(p)[1 + folk.get(p)[3]];
        }

        void turned(int p, int v) {
            folk.get(p)[1 + folk.get(p)[3]] = v;
        }

        List<Integer> allTurned() {
            List<Integer> all = new ArrayList<>();
            for (int p = 0; p < folk.size(); p++) {
                all.add(turned(p));
            }
            return all;
        }

        int marks(int p) {
            int plain = 1;
            int gloved = plain + 1;
            int child = plain - 1;
            int master = 2 * gloved;
            return List.of(plain, gloved, child, master).get(folk.get(p)[0]);
        }

        int attempt(int some) {
            tried = tried == 999 ? 999 : tried + 1;
            int who = NONE;
            for (int p = folk.size() - 1; p >= 0; p--) {
                if ((some & 1 << p) != 0 && (who == NONE || turned(p) <= turned(who))) {
                    who = p;
                }
            }
            if (turned(who) - Collections.min(allTurned()) > slack) {
                return NONE;
            }
            int then = turned(who) + marks(who);
            turned(who, then > 99 ? 99 : then);
            return who;
        }

        void calm() {
            for (int[] one : folk) {
                one[1] -= one[1] > 0 ? 1 : 0;
                one[2] -= one[2] > 0 ? 1 : 0;
            }
        }

        /** For each ACT: who is LET IN, NONE, or null where there is no TRY. */
        List<Integer> act(int here) {
            List<Integer> outcome = new ArrayList<>();
            for (int some : plan) {
                if (some == 0) {
                    calm();
                    outcome.add(null);
                } else {
                    outcome.add((some & here) == 0 ? null : Integer.valueOf(attempt(some & here)));
                }
            }
            return outcome;
        }

        int opened(int here) {
            int many = 0;
            for (Integer who : act(here)) {
                many += who != null && who >= 0 ? 1 : 0;
            }
            return many;
        }
    }

    private World world = new World();
    private final StringBuilder tape = new StringBuilder();
    private int fault = 0;
    private int torn = 0;
    private final List<int[]> seen = new ArrayList<>();
    private final World[] images = new World[2];
    private final Object[] sheets = new Object[4];

    int people() {
        return world.folk.size();
    }

    private boolean noOne(int p) {
        return p < 0 || p >= people();
    }

    private boolean noSome(int some) {
        return some < 1 || some > (1 << people()) - 1;
    }

    private static boolean out(int v, int least, int most) {
        return v < least || v > most;
    }

    int feed(int c) {
        if (out(c, 0, 127)) {
            return BAD;
        }
        if (tape.length() == 160) {
            return FULL;
        }
        return tape.append((char) c).length();
    }

    int end(int n) {
        int had = tape.length();
        if (out(n, 0, had)) {
            return BAD;
        }
        tape.setLength(n);
        return had;
    }

    // ---- text

    private static final Pattern TOKEN = Pattern.compile("\\G *(?:([a-z]+)|([0-9]{1,2})(?![0-9])|(;)|(\\z)|(.))", Pattern.DOTALL);
    private Matcher tokens;
    private int at;

    private String token() {
        if (!tokens.find()) {
            throw new IllegalStateException("no token at all");
        }
        at = Math.max(Math.max(tokens.start(1), tokens.start(2)), Math.max(tokens.start(3), tokens.start(5)));
        if (tokens.group(4) != null) {
            at = tape.length();
            return "";
        }
        if (tokens.group(5) != null) {
            throw new Refused(1, at);
        }
        return tokens.group().trim();
    }

    private int number(String token, int most) {
        if (token.isEmpty() || !Character.isDigit(token.charAt(0))) {
            throw new Refused(2, at);
        }
        if (Integer.parseInt(token) > most) {
            throw new Refused(3, at);
        }
        return Integer.parseInt(token);
    }

    private void stop() {
        if (!token().equals(";")) {
            throw new Refused(2, at);
        }
    }

    private World parsed(int[] lines) {
        World told = new World();
        List<Integer> lefts = new ArrayList<>();
        List<String> once = new ArrayList<>();
        for (String word = token(); !word.isEmpty(); word = token()) {
            int kind = Arrays.asList("plain", "gloved", "child", "master").indexOf(word);
            if (kind >= 0) {
                if (told.folk.size() == 5) {
                    throw new Refused(5, at);
                }
                told.folk.add(new int[] {kind, number(token(), 99), number(token(), 99), 0});
                stop();
            } else if (word.equals("left")) {
                int p = number(token(), 4);
                if (lefts.contains(p)) {
                    throw new Refused(4, at);
                }
                lefts.add(p);
                stop();
            } else if (word.equals("slack") || word.equals("plan")) {
                if (once.contains(word)) {
                    throw new Refused(4, at);
                }
                once.add(word);
                if (word.equals("slack")) {
                    told.slack = number(token(), 9);
                    stop();
                } else {
                    for (String t = token(); !t.equals(";"); t = token()) {
                        int any = number(t, 99);
                        if (told.plan.size() == 8) {
                            throw new Refused(5, at);
                        }
                        if (any > 31) {
                            throw new Refused(3, at);
                        }
                        told.plan.add(any);
                    }
                }
            } else {
                throw new Refused(2, at);
            }
            lines[0]++;
        }
        for (int p : lefts) {
            if (p >= told.folk.size()) {
                throw new Refused(6, tape.length());
            }
            told.folk.get(p)[3] = 1;
        }
        for (int some : told.plan) {
            if (some >= 1 << told.folk.size()) {
                throw new Refused(6, tape.length());
            }
        }
        return told;
    }

    int text() {
        int[] lines = {0};
        int answer;
        tokens = TOKEN.matcher(tape.toString());
        try {
            world = parsed(lines);
            seen.clear();
            images[0] = null;
            images[1] = null;
            fault = 0;
            answer = lines[0];
        } catch (Refused r) {
            fault = r.fault;
            answer = -10 - r.place;
        }
        tape.setLength(0);
        return answer;
    }

    int fault() {
        return fault;
    }

    // ---- what there is, what is changed

    int rule(int what) {
        int bits = 0;
        switch (what) {
            case 0: return people();
            case 1: return world.slack;
            case 2: return world.tried;
            case 3: return world.plan.size();
            case 4:
                for (int p = 0; p < people(); p++) {
                    bits += world.folk.get(p)[3] << p;
                }
                return bits;
            case 5: return people() == 0 ? NONE : Collections.min(world.allTurned());
            case 6:
                for (int p = 0; p < people(); p++) {
                    bits += world.copy().attempt(1 << p) == p ? 1 << p : 0;
                }
                return bits;
            default: return BAD;
        }
    }

    int one(int p, int what) {
        if (noOne(p) || out(what, 0, 5)) {
            return BAD;
        }
        return what < 4 ? world.folk.get(p)[what] : what == 4 ? world.turned(p) : world.marks(p);
    }

    int act(int i) {
        return out(i, 0, world.plan.size() - 1) ? BAD : world.plan.get(i);
    }

    int alter(int p, int what, int v) {
        if (noOne(p) || out(what, 0, 3) || out(v, 0, List.of(3, 99, 99, 1).get(what))) {
            return BAD;
        }
        int was = world.folk.get(p)[what];
        world.folk.get(p)[what] = v;
        return was;
    }

    int slack(int v) {
        if (out(v, 0, 9)) {
            return BAD;
        }
        int was = world.slack;
        world.slack = v;
        return was;
    }

    int plan(int act) {
        if (act != 0 && noSome(act)) {
            return BAD;
        }
        if (world.plan.size() == 8) {
            return FULL;
        }
        world.plan.add(act);
        return world.plan.size();
    }

    int cut(int n) {
        int had = world.plan.size();
        if (out(n, 0, had)) {
            return BAD;
        }
        world.plan.subList(n, had).clear();
        return had;
    }

    int turn(int some) {
        return noSome(some) ? BAD : world.attempt(some);
    }

    int rest(int n) {
        if (out(n, 0, 99)) {
            return BAD;
        }
        for (int i = n; i > 0; i--) {
            world.calm();
        }
        return rule(5);
    }

    int runs(int what) {
        if (out(what, 0, 3)) {
            return BAD;
        }
        World w = world.copy();
        List<Integer> outcome = w.act(31);
        if (what == 3) {
            return people() == 0 ? NONE : Collections.max(w.allTurned());
        }
        if (what == 2) {
            int first = outcome.indexOf(NONE);
            return first < 0 ? NONE : first;
        }
        int many = 0;
        int who = 0;
        for (Integer p : outcome) {
            if (p != null && p != NONE) {
                many++;
                who |= 1 << p;
            }
        }
        return what == 0 ? many : who;
    }

    int ahead(int p) {
        if (noOne(p)) {
            return BAD;
        }
        World w = world.copy();
        w.act(31);
        return w.turned(p);
    }

    int round() {
        World w = world.copy();
        for (int r = 1; r <= 60; r++) {
            if (w.act(31).contains(NONE)) {
                return r;
            }
        }
        return NONE;
    }

    // ---- what is best

    private static List<List<Integer>> orders(List<Integer> of) {
        List<List<Integer>> all = new ArrayList<>();
        if (of.isEmpty()) {
            all.add(new ArrayList<>());
        }
        for (Integer first : of) {
            List<Integer> others = new ArrayList<>(of);
            others.remove(first);
            for (List<Integer> row : orders(others)) {
                row.add(0, first);
                all.add(row);
            }
        }
        return all;
    }

    int order(int some, int what) {
        if (noSome(some) || what != 0 && what < 10) {
            return BAD;
        }
        List<Integer> ones = new ArrayList<>();
        for (int p = 0; p < people(); p++) {
            if ((some & 1 << p) != 0) {
                ones.add(p);
            }
        }
        int most = -1;
        List<Integer> best = null;
        for (List<Integer> row : orders(ones)) {
            World w = world.copy();
            int many = 0;
            for (int p : row) {
                many += w.attempt(1 << p) == p ? 1 : 0;
            }
            if (many > most) {
                most = many;
                best = row;
            }
        }
        return what == 0 ? most : what - 10 < best.size() ? best.get(what - 10) : NONE;
    }

    int await(int p, int what) {
        if (noOne(p) || what != 0 && what < 10) {
            return BAD;
        }
        for (int n = 0; n <= 4; n++) {
            for (int code = 0; code < Math.pow(5, n); code++) {
                String row = n == 0 ? "" : String.format("%" + n + "s", Integer.toString(code, 5)).replace(' ', '0');
                World w = world.copy();
                boolean fits = true;
                for (int i = 0; i < n && fits; i++) {
                    int q = row.charAt(i) - '0';
                    fits = q < people() && q != p && w.attempt(1 << q) == q;
                }
                if (fits && w.attempt(1 << p) == p) {
                    return what == 0 ? n : what - 10 < n ? row.charAt(what - 10) - '0' : NONE;
                }
            }
        }
        return NONE;
    }

    int hands(int what) {
        if (out(what, 0, 1)) {
            return BAD;
        }
        int[] best = {0, -1};
        for (int bits = (1 << people()) - 1; bits >= 0; bits--) {
            World w = world.copy();
            for (int p = 0; p < people(); p++) {
                w.folk.get(p)[3] = (bits & 1 << p) == 0 ? 0 : 1;
            }
            int opened = w.opened(31);
            if (opened >= best[1]) {
                best = new int[] {bits, opened};
            }
        }
        return best[what];
    }

    int clean(int what) {
        if (out(what, 0, 1)) {
            return BAD;
        }
        int now = world.copy().opened(31);
        int[] best = {NONE, now + 1};
        for (int p = people() - 1; p >= 0; p--) {
            World w = world.copy();
            w.turned(p, 0);
            int opened = w.opened(31);
            if (opened >= best[1]) {
                best = new int[] {p, opened};
            }
        }
        return best[0] == NONE ? NONE : best[what];
    }

    int trade(int what) {
        if (out(what, 0, 1)) {
            return BAD;
        }
        int now = world.copy().opened(31);
        int[] best = {NONE, now + 1};
        for (int p = people() - 1; p >= 0; p--) {
            for (int q = people() - 1; q > p; q--) {
                World w = world.copy();
                w.turned(p, world.turned(q));
                w.turned(q, world.turned(p));
                int opened = w.opened(31);
                if (opened >= best[1]) {
                    best = new int[] {10 * p + q, opened};
                }
            }
        }
        return best[0] == NONE ? NONE : best[what];
    }

    int loose() {
        for (int v = 0; v < 10; v++) {
            World w = world.copy();
            w.slack = v;
            if (!w.act(31).contains(NONE)) {
                return v;
            }
        }
        return NONE;
    }

    // ---- who stays away

    /** p -1: the mean of how many; else that p is LET IN. */
    private long odds(int v, int p, int what) {
        BigInteger above = BigInteger.ZERO;
        for (int here = 0; here < 1 << people(); here++) {
            BigInteger weight = BigInteger.valueOf(10 - v).pow(Integer.bitCount(here))
                .multiply(BigInteger.valueOf(v).pow(people() - Integer.bitCount(here)));
            World w = world.copy();
            int many = p < 0 ? w.opened(here) : w.act(here).contains(p) ? 1 : 0;
            above = above.add(weight.multiply(BigInteger.valueOf(many)));
        }
        BigInteger below = BigInteger.TEN.pow(people());
        BigInteger both = above.gcd(below);
        return (what == 0 ? above : below).divide(both).longValueExact();
    }

    long mean(int v, int what) {
        return out(v, 0, 10) || out(what, 0, 1) ? BAD : odds(v, -1, what);
    }

    long luck(int v, int p, int what) {
        return out(v, 0, 10) || noOne(p) || out(what, 0, 1) ? BAD : odds(v, p, what);
    }

    // ---- how often one has turned it

    int see(int i, int p) {
        if (out(i, 0, 7) || p != NONE && noOne(p)) {
            return BAD;
        }
        if (seen.size() == 6) {
            return FULL;
        }
        seen.add(new int[] {i, p});
        return seen.size();
    }

    int forget(int n) {
        int had = seen.size();
        if (out(n, 0, had)) {
            return BAD;
        }
        seen.subList(n, had).clear();
        return had;
    }

    /** Who is LET IN by each of eight ACTS. */
    private static List<Integer> eight(World w) {
        List<Integer> outcome = w.act(31);
        outcome.replaceAll(p -> p == null ? NONE : p);
        while (outcome.size() < 8) {
            outcome.add(NONE);
        }
        return outcome;
    }

    private boolean asSeen(List<Integer> outcome) {
        return seen.stream().allMatch(s -> outcome.get(s[0]) == s[1]);
    }

    /** Each COUNT that fits, with what would be seen. */
    private Map<Integer, List<Integer>> guesses(int p) {
        Map<Integer, List<Integer>> all = new HashMap<>();
        for (int c = 0; c <= 20; c++) {
            World w = world.copy();
            w.turned(p, c);
            List<Integer> outcome = eight(w);
            if (asSeen(outcome)) {
                all.put(c, outcome);
            }
        }
        return all;
    }

    int counts(int p, int what) {
        if (noOne(p) || out(what, 0, 2)) {
            return BAD;
        }
        Map<Integer, List<Integer>> all = guesses(p);
        if (what == 0) {
            return all.size();
        }
        if (all.isEmpty()) {
            return NONE;
        }
        return what == 1 ? Collections.min(all.keySet()) : Collections.max(all.keySet());
    }

    int slacks() {
        int bits = 0;
        for (int v = 9; v >= 0; v--) {
            World w = world.copy();
            w.slack = v;
            bits = 2 * bits + (asSeen(eight(w)) ? 1 : 0);
        }
        return bits;
    }

    int look(int p, int what) {
        if (noOne(p) || out(what, 0, 1)) {
            return BAD;
        }
        Map<Integer, List<Integer>> all = guesses(p);
        int[] best = {NONE, all.size()};
        for (int i = 0; i < world.plan.size(); i++) {
            Map<Integer, Integer> parts = new HashMap<>();
            for (List<Integer> outcome : all.values()) {
                parts.merge(outcome.get(i), 1, Integer::sum);
            }
            int worst = parts.isEmpty() ? 0 : Collections.max(parts.values());
            if (worst < best[1]) {
                best = new int[] {i, worst};
            }
        }
        return best[0] == NONE ? NONE : best[what];
    }

    // ---- by a seed

    int drift(int seed, int n, int what) {
        if (out(n, 1, 60) || out(what, 0, 1)) {
            return BAD;
        }
        if (people() == 0) {
            return STATE;
        }
        World w = world.copy();
        BigInteger state = BigInteger.valueOf(seed);
        int many = 0;
        for (int i = 0; i < n; i++) {
            state = state.multiply(BigInteger.valueOf(1103515245)).add(BigInteger.valueOf(12345)).mod(BigInteger.ONE.shiftLeft(32));
            int bits = state.shiftRight(16).mod(BigInteger.valueOf(32768)).intValueExact();
            many += w.attempt(bits % ((1 << people()) - 1) + 1) == NONE ? 0 : 1;
        }
        return what == 0 ? many : Collections.max(w.allTurned());
    }

    // ---- images, sheets

    int keep(int k) {
        if (out(k, 0, 1)) {
            return BAD;
        }
        int was = images[k] == null ? 0 : 1;
        images[k] = world.copy();
        return was;
    }

    int back(int k) {
        if (out(k, 0, 1)) {
            return BAD;
        }
        if (images[k] == null) {
            return STATE;
        }
        world = images[k].copy();
        return world.tried;
    }

    int sheet(int k, int lane, int n) {
        if (out(k, 0, 3) || out(lane, 0, 2) || n > 40) {
            return BAD;
        }
        try {
            sheets[k] = lane == 0 ? new byte[n] : lane == 1 ? new short[n] : new int[n];
            return 1;
        } catch (NegativeArraySizeException e) {
            return -14;
        }
    }

    int lay(int k, int i, int v) {
        if (out(k, 0, 3)) {
            return BAD;
        }
        try {
            if (sheets[k] instanceof byte[]) {
                ((byte[]) sheets[k])[i] = (byte) v;
            } else if (sheets[k] instanceof short[]) {
                ((short[]) sheets[k])[i] = (short) v;
            } else {
                ((int[]) sheets[k])[i] = v;
            }
            return 1;
        } catch (NullPointerException e) {
            return -11;
        } catch (ArrayIndexOutOfBoundsException e) {
            return -12;
        }
    }

    private List<Integer> cells(Object sheet, int lane, int f, int n, int[] found) {
        List<Integer> cells = new ArrayList<>();
        try {
            // The SHEET is taken as of its lane for each TRY anew: with no TRY the machine refuses nothing.
            for (int i = 0; i < n; i++) {
                switch (lane) {
                    case 0: cells.add((int) ((byte[]) sheet)[f + i]); break;
                    case 1: cells.add((int) ((short[]) sheet)[f + i]); break;
                    default: cells.add(((int[]) sheet)[f + i]); break;
                }
            }
        } catch (NullPointerException e) {
            found[0] = 1;
        } catch (ArrayIndexOutOfBoundsException e) {
            found[0] = 2;
        } catch (ClassCastException e) {
            found[0] = 3;
        }
        return cells;
    }

    int read(int k, int lane, int f, int n) {
        if (out(k, 0, 3) || out(lane, 0, 2) || out(n, 0, 20)) {
            return BAD;
        }
        int[] found = {0};
        List<Integer> cells = cells(sheets[k], lane, f, n, found);
        for (int i = 0; i < cells.size(); i++) {
            if (noSome(cells.get(i))) {
                return -20 - i;
            }
        }
        for (int some : cells) {
            world.attempt(some);
        }
        torn = found[0];
        return cells.size();
    }

    int torn() {
        return torn;
    }

    int count(int what) {
        int sum = 0;
        switch (what) {
            case 0: return seen.size();
            case 1: return (images[0] == null ? 0 : 1) + (images[1] == null ? 0 : 1);
            case 2: return tape.length();
            case 3: return sheets[0] == null ? NONE : java.lang.reflect.Array.getLength(sheets[0]);
            case 4:
            case 5:
                for (int p = 0; p < people(); p++) {
                    sum += what == 4 ? world.turned(p) : world.marks(p);
                }
                return sum;
            default: return BAD;
        }
    }
}
