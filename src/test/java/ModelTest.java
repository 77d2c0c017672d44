import java.lang.reflect.InvocationTargetException;
import java.lang.reflect.Method;
import java.lang.reflect.Modifier;
import java.util.ArrayList;
import java.util.Arrays;
import java.util.Comparator;
import java.util.List;
import java.util.Random;

/** Long runs of calls, drawn from fixed seeds: the program and the model answer alike, and nothing throws. */
public final class ModelTest {
    private static final int RUNS = 600;
    private static final int CALLS = 512;
    private static final int[] EDGES = {Integer.MIN_VALUE, -2, -1, 5, 6, 8, 9, 10, 14, 15, 59, 60, 61, 63, 64,
        Integer.MAX_VALUE};

    private final Due due = new Due("ModelTest");
    private final List<Method> calls = new ArrayList<>();
    private Random random;
    private ChildCourt x;
    private Model model;
    private int left;
    private String run;

    public static void main(String[] args) throws Exception {
        new ModelTest().all();
    }

    private void all() throws Exception {
        for (Method m : ChildCourt.class.getDeclaredMethods()) {
            if (Modifier.isPublic(m.getModifiers())) {
                calls.add(m);
            }
        }
        calls.sort(Comparator.comparing(Method::getName));
        for (int seed = 0; seed < RUNS; seed++) {
            oneRun(seed);
        }
        due.end();
    }

    private void oneRun(int seed) throws Exception {
        random = new Random(seed);
        x = new ChildCourt();
        model = new Model();
        left = CALLS;
        run = "run " + seed;
        if (seed % 10 != 0) {
            tellText(seed % 7 == 0);
        }
        while (left > 0) {
            int turn = random.nextInt(100);
            if (turn < 1) {
                tellText(random.nextInt(3) == 0);
            } else if (turn < 10) {
                tellOrder();
            } else if (turn < 14) {
                readWhatIs();
            } else {
                Method m = calls.get(random.nextInt(calls.size()));
                ask(m.getName(), arguments(m));
            }
        }
    }

    /** What the program answers; 0 without asking, if the run has had all its calls. */
    private int ask(String name, int... a) throws Exception {
        if (left == 0) {
            return 0;
        }
        left--;
        String told = run + " call " + (CALLS - left) + " " + name + Arrays.toString(a);
        long answer = answerOfProgram(name, a, told);
        due.due(told, answer, model.call(name, a));
        return (int) answer;
    }

    private long answerOfProgram(String name, int[] a, String told) throws Exception {
        Method m = calls.stream().filter(c -> c.getName().equals(name)).findFirst().orElseThrow();
        Object[] boxed = new Object[a.length];
        for (int p = 0; p < a.length; p++) {
            boxed[p] = m.getParameterTypes()[p] == boolean.class ? (Object) (a[p] == 1) : (Object) a[p];
        }
        try {
            return ((Number) m.invoke(x, boxed)).longValue();
        } catch (InvocationTargetException e) {
            throw new IllegalStateException(told + " threw", e.getCause());
        }
    }

    private int draw(int below) {
        return random.nextInt(12) == 0 ? EDGES[random.nextInt(EDGES.length)] : random.nextInt(below);
    }

    /** Numbers that are mostly within what the call takes, and now and then at the edges or far out. */
    private int[] arguments(Method m) {
        int[] a = new int[m.getParameterCount()];
        for (int p = 0; p < a.length; p++) {
            a[p] = m.getParameterTypes()[p] == boolean.class ? random.nextInt(2) : draw(5);
        }
        switch (m.getName()) {
            case "chalk":
                a[0] = draw(64);
                break;
            case "minutes":
                a[0] = draw(60);
                break;
            case "votes":
                a[1] = draw(61);
                break;
            case "back":
                a[0] = draw(3);
                break;
            case "most": case "delay":
                a[0] = draw(6) - 1;
                break;
            case "reading":
                a[1] = draw(3);
                break;
            case "sitting":
                a[4] = random.nextBoolean() ? draw(2) : 10 + draw(5);
                break;
            case "sheet":
                a[2] = draw(20);
                break;
            case "put":
                a[2] = random.nextBoolean() ? draw(128) : random.nextInt();
                break;
            default:
                break;
        }
        return a;
    }

    private char any(String signs) {
        return signs.charAt(random.nextInt(signs.length()));
    }

    private String text() {
        StringBuilder t = new StringBuilder("k");
        int minutes = random.nextBoolean() ? 5 + random.nextInt(20) : 5 + random.nextInt(56);
        t.append(minutes / 10).append(minutes % 10);
        for (int j = 1 + random.nextInt(5); j > 0; j--) {
            t.append(',').append(any("chhss")).append(any(random.nextBoolean() ? "12" : "123456789"));
        }
        for (int c = 1 + random.nextInt(5); c > 0; c--) {
            t.append(';').append(any("012345")).append(any("123456789")).append(any("123456789"));
        }
        return t.toString();
    }

    private void tellText(boolean isSpoilt) throws Exception {
        StringBuilder t = new StringBuilder(text());
        if (isSpoilt) {
            int p = random.nextInt(t.length());
            switch (random.nextInt(4)) {
                case 0: t.setLength(p); break;
                case 1: t.setCharAt(p, any("kchs,;0123456789:/")); break;
                case 2: t.insert(p, any("kchs,;0123456789")); break;
                default: t.append(any(",;0")); break;
            }
        }
        int lane = random.nextInt(3);
        int from = random.nextInt(3);
        ask("sheet", 0, lane, from + t.length());
        for (int p = 0; p < t.length(); p++) {
            ask("put", 0, from + p, t.charAt(p));
        }
        ask("court", 0, lane, from, t.length());
        ask("chalk", random.nextInt(64));
    }

    private void tellOrder() throws Exception {
        List<Integer> order = new ArrayList<>();
        for (int c = ask("many", 0) - 1; c >= 0; c--) {
            order.add(random.nextInt(order.size() + 1), c);
        }
        ask("sheet", 1, 2, order.size());
        for (int p = 0; p < order.size(); p++) {
            ask("put", 1, p, order.get(p));
        }
        int n = random.nextInt(order.size() + 1);
        ask("sitting", 1, 2, 0, n, 0);
        ask("sitting", 1, 2, 0, order.size(), 1);
        for (int c = 0; c < order.size(); c++) {
            ask("sitting", 1, 2, 0, order.size(), 10 + c);
        }
        ask("bribe", random.nextInt(5), 1, 2, 0, order.size());
    }

    /** Readings of what is, then a change, so that what is asked of them is neither all nor nothing. */
    private void readWhatIs() throws Exception {
        ask("back", ask("many", 4));
        int cases = ask("many", 0);
        ask("sheet", 1, 2, cases);
        for (int c = 0; c < cases; c++) {
            ask("put", 1, c, c);
        }
        for (int r = random.nextInt(3); r >= 0; r--) {
            int c = random.nextInt(5);
            ask("reading", c, ask("sitting", 1, 2, 0, cases, 10 + c));
        }
        int j = random.nextInt(5);
        ask(random.nextBoolean() ? "treat" : "strike", j, random.nextInt(2));
        ask("codes", random.nextInt(3));
        ask("kinds", j);
        ask("treated");
    }
}
