import java.lang.reflect.InvocationTargetException;
import java.lang.reflect.Method;
import java.lang.reflect.Modifier;
import java.util.ArrayList;
import java.util.Comparator;
import java.util.List;
import java.util.Random;

/** Long runs of calls, by seeds, on the class and on a model of the document: each answer is the same, and nothing is thrown. */
public final class ModelTest {
    private static final int RUNS = 700;
    private static final int CALLS = 512;
    private static final int TEXTS = 40000;
    private static final int[] WILD = {Integer.MIN_VALUE, Integer.MIN_VALUE + 1, -65537, -100, -6, -5, -4, -3, -2, -1, 99, 100, 127,
        128, 1000, 65535, 65536, 1 << 30, Integer.MAX_VALUE - 1, Integer.MAX_VALUE};

    private final Random random;
    private final HandLock lock = new HandLock();
    private final Model model = new Model();
    private final StringBuilder told = new StringBuilder();
    private int calls = 0;

    private ModelTest(long seed) {
        random = new Random(seed);
    }

    public static void main(String[] args) throws ReflectiveOperationException {
        List<Method> methods = new ArrayList<>();
        for (Method m : HandLock.class.getDeclaredMethods()) {
            if (Modifier.isPublic(m.getModifiers())) {
                methods.add(m);
            }
        }
        methods.sort(Comparator.comparing(Method::getName));
        int[] asked = new int[methods.size()];
        for (int run = 0; run < RUNS; run++) {
            new ModelTest(run).run(run, methods, asked);
        }
        for (int i = 0; i < asked.length; i++) {
            Due.isTrue(methods.get(i).getName() + " was asked often", asked[i] > 1000);
        }
        Random random = new Random(-1);
        for (int i = 0; i < TEXTS; i++) {
            readText(mutated(random, sentence(random)));
        }
        Due.finish();
    }

    private static void readText(String text) {
        HandLock lock = new HandLock();
        Model model = new Model();
        for (int i = 0; i < text.length(); i++) {
            lock.feed(text.charAt(i));
            model.feed(text.charAt(i));
        }
        Due.due("text() of '" + text + "'", lock.text(), model.text());
        Due.due("fault() of '" + text + "'", lock.fault(), model.fault());
        StringBuilder got = new StringBuilder();
        StringBuilder want = new StringBuilder();
        for (int i = 0; i < 9; i++) {
            got.append(lock.rule(i)).append(' ').append(lock.act(i)).append(' ');
            want.append(model.rule(i)).append(' ').append(model.act(i)).append(' ');
            for (int what = 0; what < 6; what++) {
                got.append(lock.one(i, what)).append(' ');
                want.append(model.one(i, what)).append(' ');
            }
        }
        Due.row("all behind '" + text + "'", got.toString(), want.toString());
    }

    private void run(int run, List<Method> methods, int[] asked) throws ReflectiveOperationException {
        int textAt = 0;
        while (calls < CALLS) {
            if (calls >= textAt) {
                feedText(run);
                textAt = calls + 100 + random.nextInt(500);
            }
            int m = random.nextInt(methods.size());
            Method method = methods.get(m);
            // feed and end are met by the texts; a taken text would empty all too often.
            if (method.getName().equals("text") && random.nextInt(4) != 0) {
                continue;
            }
            Object[] arguments = arguments(method);
            if (!call(run, method, arguments)) {
                return;
            }
            asked[m]++;
        }
    }

    private void feedText(int run) {
        String text = random.nextInt(6) == 0 ? mutated(random, sentence(random)) : sentence(random);
        Due.due("run " + run + ": end(0)", lock.end(0), model.end(0));
        for (int i = 0; i < text.length(); i++) {
            Due.due("run " + run + ": feed", lock.feed(text.charAt(i)), model.feed(text.charAt(i)));
        }
        Due.due("run " + run + ": text() of '" + text + "'", lock.text(), model.text());
        Due.due("run " + run + ": fault()", lock.fault(), model.fault());
        told.append("text '").append(text).append("' ");
        calls += text.length() + 3;
    }

    private boolean call(int run, Method method, Object[] arguments) throws ReflectiveOperationException {
        StringBuilder name = new StringBuilder(method.getName()).append('(');
        for (int i = 0; i < arguments.length; i++) {
            name.append(i == 0 ? "" : ", ").append(arguments[i]);
        }
        String call = name.append(')').toString();
        calls++;
        told.append(call).append(' ');
        long want = ((Number) Model.class.getDeclaredMethod(method.getName(), method.getParameterTypes())
            .invoke(model, arguments)).longValue();
        try {
            long got = ((Number) method.invoke(lock, arguments)).longValue();
            Due.due("run " + run + ": " + call, got, want);
            if (got != want) {
                System.out.println("  behind " + told);
            }
            return got == want;
        } catch (InvocationTargetException e) {
            Due.isTrue("run " + run + ": " + call + " threw " + e.getCause(), false);
            return false;
        }
    }

    private int near(int least, int most) {
        return least + random.nextInt(most - least + 1);
    }

    private Object[] arguments(Method method) {
        int people = Math.max(1, model.people());
        int someone = random.nextInt(people);
        int some = 1 + random.nextInt((1 << people) - 1);
        int row = random.nextInt(3) == 0 ? 0 : near(10, 15);
        int k = random.nextInt(4);
        int[] good;
        switch (method.getName()) {
            case "feed": good = new int[] {near(0, 127)}; break;
            case "end": good = new int[] {near(0, model.count(2))}; break;
            case "rule": good = new int[] {near(0, 6)}; break;
            case "one": good = new int[] {someone, near(0, 5)}; break;
            case "act": good = new int[] {near(0, 8)}; break;
            case "alter": good = altering(someone); break;
            case "slack": good = new int[] {near(0, 9)}; break;
            case "plan": good = new int[] {random.nextInt(4) == 0 ? 0 : some}; break;
            case "cut": good = new int[] {near(model.rule(3) / 2, model.rule(3))}; break;
            case "turn": good = new int[] {some}; break;
            case "rest": good = new int[] {random.nextInt(5) == 0 ? near(0, 99) : near(0, 2)}; break;
            case "runs": good = new int[] {near(0, 3)}; break;
            case "ahead": good = new int[] {someone}; break;
            case "order": good = new int[] {some, row}; break;
            case "await": good = new int[] {someone, row}; break;
            case "hands":
            case "clean":
            case "trade": good = new int[] {near(0, 1)}; break;
            case "mean": good = new int[] {near(0, 10), near(0, 1)}; break;
            case "luck": good = new int[] {near(0, 10), someone, near(0, 1)}; break;
            case "see": good = new int[] {near(0, 7), random.nextInt(2) == 0 ? -4 : someone}; break;
            case "forget": good = new int[] {near(0, model.count(0))}; break;
            case "counts": good = new int[] {someone, near(0, 2)}; break;
            case "look": good = new int[] {someone, near(0, 1)}; break;
            case "drift": good = new int[] {random.nextInt(), near(1, 60), near(0, 1)}; break;
            case "keep":
            case "back": good = new int[] {near(0, 1)}; break;
            case "sheet": good = new int[] {k, k % 3, near(-1, 41)}; break;
            case "lay": good = new int[] {k, near(0, 20), random.nextInt(8) == 0 ? random.nextInt() : some + 65536 * near(0, 1)}; break;
            case "read": good = new int[] {k, random.nextInt(6) == 0 ? near(0, 2) : k % 3, near(-1, 20), near(0, 5)}; break;
            case "count": good = new int[] {near(0, 5)}; break;
            default: good = new int[method.getParameterCount()]; break;
        }
        Object[] arguments = new Object[good.length];
        for (int i = 0; i < good.length; i++) {
            int near = random.nextInt(12) == 0 ? good[i] + near(-2, 2) : good[i];
            arguments[i] = random.nextInt(25) == 0 ? WILD[random.nextInt(WILD.length)] : near;
        }
        return arguments;
    }

    private int[] altering(int someone) {
        int what = random.nextInt(4);
        int most = what == 0 ? 3 : what == 3 ? 1 : random.nextInt(6) == 0 ? 99 : 12;
        return new int[] {someone, what, near(0, most)};
    }

    /** A text that is taken, most often. */
    private static String sentence(Random random) {
        String[] kinds = {"plain", "gloved", "child", "master"};
        int people = random.nextInt(12) == 0 ? 0 : 1 + random.nextInt(5);
        int most = random.nextInt(10) == 0 ? 100 : 1 + random.nextInt(14);
        List<String> lines = new ArrayList<>();
        for (int p = 0; p < people; p++) {
            lines.add(kinds[random.nextInt(4)] + " " + random.nextInt(most) + " " + random.nextInt(most) + ";");
        }
        for (int p = 0; p < people; p++) {
            if (random.nextInt(3) == 0) {
                lines.add(random.nextInt(lines.size() + 1), "left " + p + ";");
            }
        }
        if (random.nextBoolean()) {
            lines.add(random.nextInt(lines.size() + 1), "slack " + random.nextInt(10) + ";");
        }
        if (random.nextInt(8) != 0) {
            StringBuilder plan = new StringBuilder("plan");
            int acts = random.nextInt(9);
            for (int i = 0; i < acts; i++) {
                plan.append(' ').append(random.nextInt(5) == 0 ? 0 : random.nextInt(1 << people));
            }
            lines.add(random.nextInt(lines.size() + 1), plan.append(';').toString());
        }
        return String.join(random.nextInt(4) == 0 ? " " : "", lines);
    }

    /** The same with some faults, as a rule. */
    private static String mutated(Random random, String text) {
        String[] parts = {"plain", "gloved", "child", "master", "left", "slack", "plan", ";", " ", "0", "7", "31", "32", "99", "100",
            "x", "$", "\t", "plan 1 1;", "slack 3;", "left 1;", "plain 0 0;", "~", "A", "\0", "/", ":", "{", "`"};
        StringBuilder s = new StringBuilder(text);
        int times = random.nextInt(4);
        for (int i = 0; i < times; i++) {
            int at = random.nextInt(s.length() + 1);
            int kind = random.nextInt(3);
            if (kind == 0) {
                s.insert(at, parts[random.nextInt(parts.length)]);
            } else if (kind == 1 && at < s.length()) {
                s.deleteCharAt(at);
            } else if (random.nextInt(3) == 0) {
                s.setLength(at);
            } else if (at < s.length()) {
                s.setCharAt(at, parts[random.nextInt(parts.length)].charAt(0));
            }
        }
        return s.toString();
    }
}
