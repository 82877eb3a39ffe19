import java.lang.reflect.InvocationTargetException;
import java.lang.reflect.Method;
import java.util.Arrays;
import java.util.HashMap;
import java.util.Map;
import java.util.Random;

/** Long runs of calls, right and wrong ones, on the program and on the reference side by side. */
public final class ReferenceTest {
    private static final int RUNS = 1500;
    private static final int CALLS = 400;
    private static final int[] EDGES = {Integer.MIN_VALUE, Integer.MIN_VALUE + 1, -1000, -100, -1, 0, 1, 2, 3, 4, 5, 9,
        10, 14, 23, 24, 25, 50, 51, 99, 100, 101, 255, 256, 999, 1000, Integer.MAX_VALUE - 1, Integer.MAX_VALUE};
    private static final String[] ALL = {"errorPosition", "load", "about", "vertex", "row", "atom", "find", "step", "run",
        "transfer", "reset", "setRow", "undo", "point", "residual", "slope", "value", "gap", "best", "worst", "face",
        "oracle", "bestAlone", "search", "preview", "stepsUntil", "runScript", "simulate", "save", "restore", "append",
        "clearText"};
    private static final String[] OFTEN = {"step", "step", "step", "transfer", "transfer", "transfer", "setRow", "run",
        "reset", "undo", "save", "restore", "preview", "gap", "value", "runScript", "simulate", "stepsUntil", "atom",
        "atom"};

    private final Check check;
    private final Random random;
    private final Map<String, Method> real = methods(PolytopeDescent.class);
    private final Map<String, Method> due = methods(Reference.class);
    private PolytopeDescent x;
    private Reference y;

    private ReferenceTest(Check check, long seed) {
        this.check = check;
        this.random = new Random(seed);
    }

    private static Map<String, Method> methods(Class<?> c) {
        Map<String, Method> found = new HashMap<>();
        for (Method m : c.getDeclaredMethods()) {
            if (java.lang.reflect.Modifier.isPublic(m.getModifiers())) {
                m.setAccessible(true);
                found.put(m.getName(), m);
            }
        }
        return found;
    }

    private static String answer(Method m, Object on, Object[] args) {
        try {
            return m.invoke(on, args).toString();
        } catch (InvocationTargetException e) {
            return e.getCause().getClass().getName();
        } catch (IllegalAccessException e) {
            throw new IllegalStateException(e);
        }
    }

    private void both(String where, String name, Object... args) {
        String got = answer(real.get(name), x, args);
        String want = answer(due.get(name), y, args);
        check.isTrue(where + " " + name + Arrays.toString(args) + " answered " + got + ", due is " + want,
            got.equals(want));
    }

    private int upTo(int n) {
        return random.nextInt(n + 1);
    }

    private char digit(int low, int high) {
        return (char) ('0' + low + random.nextInt(high - low + 1));
    }

    private String goodText() {
        StringBuilder t = new StringBuilder("P");
        int d = 1 + random.nextInt(4);
        int kind = random.nextInt(5);
        t.append(d).append("sbcpl".charAt(kind));
        if (kind == 4) {
            int n = 1 + random.nextInt(8);
            t.append(n);
            int high = random.nextBoolean() ? 9 : 2;
            for (int i = 0; i < n * d; i++) {
                t.append(digit(0, high));
            }
        } else {
            int n = kind == 0 || kind == 2 ? 1 : d;
            int high = random.nextBoolean() ? 9 : 3;
            for (int i = 0; i < n; i++) {
                t.append(digit(kind == 3 ? 0 : 1, high));
            }
        }
        int rows = 1 + random.nextInt(4);
        int high = random.nextBoolean() ? 9 : 2;
        for (int k = 0; k < rows; k++) {
            t.append('r');
            for (int j = 0; j < d; j++) {
                t.append(random.nextBoolean() ? '+' : '-').append(digit(0, high));
            }
            t.append(random.nextBoolean() ? '+' : '-').append(digit(0, random.nextBoolean() ? 9 : 0)).append(digit(0, 9));
        }
        return t.toString();
    }

    private String spoiled(String text) {
        StringBuilder t = new StringBuilder(text);
        int at = random.nextInt(t.length());
        switch (random.nextInt(5)) {
            case 0:
                t.setLength(at);
                break;
            case 1:
                t.setCharAt(at, "P01234589sbcplr+-. ".charAt(random.nextInt(19)));
                break;
            case 2:
                t.setCharAt(at, (char) random.nextInt(256));
                break;
            case 3:
                t.insert(at, "P0r+-9".charAt(random.nextInt(6)));
                break;
            default:
                t.append("r+1+1+01");
                break;
        }
        return t.toString();
    }

    private void type(String where, String text) {
        both(where, "clearText");
        for (int i = 0; i < text.length(); i++) {
            both(where, "append", (int) text.charAt(i));
        }
    }

    private int number(int low, int high) {
        int luck = random.nextInt(30);
        if (luck == 0) {
            return EDGES[random.nextInt(EDGES.length)];
        }
        if (luck == 1) {
            return random.nextBoolean() ? low - 1 : high + 1;
        }
        return low + random.nextInt(Math.max(1, high - low + 1));
    }

    private long group() {
        switch (random.nextInt(12)) {
            case 0:
                return random.nextInt(10000);
            case 1:
            case 2:
            case 3:
                return 1000 + 100 * random.nextInt(3) + 1 + random.nextInt(random.nextInt(10) == 0 ? 55 : 6);
            case 4:
                return 2000 + upTo(x.about(2));
            case 5:
                return 3000 + 100 * upTo(x.about(4)) + upTo(x.about(2));
            case 6:
                return 4000 + 1 + random.nextInt(4);
            case 7:
                return 5000 + upTo(x.about(2));
            case 8:
                return 6000 + 100 * random.nextInt(3) + random.nextInt(70);
            case 9:
                return 7000;
            case 10:
                return 8000 + random.nextInt(3);
            default:
                return 1000 * random.nextInt(10) + 100 * random.nextInt(4) + random.nextInt(30);
        }
    }

    private long script(int n) {
        if (random.nextInt(25) == 0) {
            return random.nextLong() >> random.nextInt(64);
        }
        long s = 0;
        for (int i = 0; i < n; i++) {
            s = s * 10000 + group();
        }
        return s;
    }

    private long limit() {
        switch (random.nextInt(4)) {
            case 0:
                return random.nextInt(20) == 0 ? random.nextLong() : 0;
            case 1:
                return Math.max(0, x.gap() / (1 + random.nextInt(50)));
            case 2:
                return Math.max(0, x.gap() - random.nextInt(2));
            default:
                return random.nextInt(100000);
        }
    }

    private Object[] arguments(String name) {
        int d = x.about(0);
        int vertices = x.about(2) - 1;
        int rows = x.about(3) - 1;
        int atoms = x.about(4) - 1;
        switch (name) {
            case "append":
                return new Object[] {number(0, 255)};
            case "about":
                return new Object[] {number(0, 6)};
            case "vertex":
                return new Object[] {number(0, vertices), number(0, d - 1)};
            case "row":
                return new Object[] {number(0, rows), number(0, d)};
            case "atom":
                return new Object[] {number(0, atoms), number(0, 1)};
            case "find":
                return findArguments(d, vertices);
            case "step":
                return new Object[] {number(0, 2)};
            case "run":
                return new Object[] {number(0, 2), number(1, random.nextInt(5) == 0 ? 50 : 5)};
            case "transfer":
                int i = number(0, atoms);
                int most = i >= 0 && i <= atoms ? x.atom(i, 1) : 100;
                return new Object[] {i, number(0, vertices), random.nextInt(6) == 0 ? most : number(0, most)};
            case "reset":
                return new Object[] {number(0, vertices)};
            case "setRow":
                int j = number(0, d);
                return new Object[] {number(0, rows), j, j == d ? number(-99, 99) : number(-9, 9)};
            case "point":
                return new Object[] {number(0, d - 1)};
            case "residual":
                return new Object[] {number(0, rows)};
            case "slope":
                boolean ofVertex = random.nextBoolean();
                return new Object[] {number(0, ofVertex ? vertices : d - 1), ofVertex};
            case "oracle":
                int high = random.nextBoolean() ? 999 : 1;
                return new Object[] {number(-high, high), number(-high, high), number(-high, high), number(-high, high)};
            case "search":
                return new Object[] {number(0, vertices), number(0, vertices), random.nextBoolean()};
            case "preview":
                return new Object[] {number(0, 2), number(0, 3)};
            case "stepsUntil":
                return new Object[] {number(0, 2), limit()};
            case "runScript":
                int n = number(1, 4);
                return new Object[] {n, script(Math.min(4, n))};
            case "simulate":
                return new Object[] {random.nextLong() >> random.nextInt(64), number(1, random.nextInt(4) == 0 ? 50 : 8)};
            case "save":
            case "restore":
                return new Object[] {number(0, 1)};
            default:
                return new Object[0];
        }
    }

    private Object[] findArguments(int d, int vertices) {
        Object[] p = {0, 0, 0, 0};
        int v = random.nextInt(vertices + 1);
        for (int j = 0; j < d; j++) {
            p[j] = x.vertex(v, j);
        }
        if (random.nextInt(3) == 0) {
            p[random.nextInt(4)] = number(-9, 9);
        }
        return p;
    }

    private void observe(String where) {
        for (int what = 4; what <= 6; what++) {
            both(where, "about", what);
        }
        for (int i = 0; i < x.about(4); i++) {
            both(where, "atom", i, 0);
            both(where, "atom", i, 1);
        }
        both(where, "value");
        both(where, "gap");
    }

    private void observeAll(String where) {
        observe(where);
        for (int what = 0; what <= 3; what++) {
            both(where, "about", what);
        }
        for (int v = 0; v < x.about(2); v++) {
            for (int j = 0; j < x.about(0); j++) {
                both(where, "vertex", v, j);
            }
        }
        for (int k = 0; k < x.about(3); k++) {
            for (int j = 0; j <= x.about(0); j++) {
                both(where, "row", k, j);
            }
        }
    }

    private void oneRun(int run) {
        x = new PolytopeDescent();
        y = new Reference();
        String where = "run " + run;
        observeAll(where);
        for (int call = 0; call < CALLS; call++) {
            if (call == 0 || random.nextInt(60) == 0) {
                String text = goodText();
                type(where, random.nextInt(3) == 0 ? spoiled(text) : text);
                both(where, "errorPosition");
                both(where, "load");
                observeAll(where);
            }
            String[] from = random.nextInt(3) == 0 ? ALL : OFTEN;
            String name = from[random.nextInt(from.length)];
            both(where, name, arguments(name));
            if (random.nextInt(6) == 0) {
                observe(where);
            }
        }
        observeAll(where);
        // The oldest of fourteen states is the last that undo brings back.
        for (int i = 0; i < 15; i++) {
            both(where, "undo");
        }
        observeAll(where);
    }

    public static void main(String[] args) {
        Check check = new Check("ReferenceTest");
        long seed = args.length > 0 ? Long.parseLong(args[0]) : 20261118L;
        ReferenceTest test = new ReferenceTest(check, seed);
        for (int run = 0; run < RUNS; run++) {
            test.oneRun(run);
        }
        check.close();
    }
}
