import java.util.concurrent.Callable;
import java.util.function.Supplier;
import java.util.function.ToLongFunction;

/** Counts answers that are due and those that are not; each test class ends with close(). */
final class Check {
    private int right = 0;
    private int wrong = 0;
    private final String name;

    Check(String name) {
        this.name = name;
    }

    void due(String call, long got, long want) {
        note(got == want, call + " answered " + got + ", due is " + want);
    }

    void isTrue(String what, boolean holds) {
        note(holds, what);
    }

    /** The exception's class must be the very one that the document names, not one below it. */
    void dueThrow(String call, Class<? extends RuntimeException> want, Callable<?> body) {
        String got;
        try {
            got = "answered " + body.call();
        } catch (Exception e) {
            got = e.getClass() == want ? null : "threw " + e.getClass().getName();
        }
        note(got == null, call + " " + got + ", due is " + want.getName());
    }

    void dueIndex(String call, Callable<?> body) {
        dueThrow(call, IndexOutOfBoundsException.class, body);
    }

    void dueArgument(String call, Callable<?> body) {
        dueThrow(call, IllegalArgumentException.class, body);
    }

    void dueState(String call, Callable<?> body) {
        dueThrow(call, IllegalStateException.class, body);
    }

    void same(String what, String got, String want) {
        note(got.equals(want), what + " answered " + got + ", due is " + want);
    }

    /** A refused call throws what is due and changes nothing: its object and an untouched twin show the same to the end. */
    void refused(String call, Class<? extends RuntimeException> want, Supplier<PolytopeDescent> make,
        ToLongFunction<PolytopeDescent> body) {
        PolytopeDescent tried = make.get();
        dueThrow(call, want, () -> body.applyAsLong(tried));
        same("after the refused " + call + " the object", lastLook(tried), lastLook(make.get()));
    }

    private void note(boolean good, String message) {
        if (good) {
            right++;
            return;
        }
        wrong++;
        if (wrong <= 50) {
            System.out.println(name + ": " + message);
        }
    }

    void close() {
        System.out.println(name + ": " + right + " answers as due, " + wrong + " not");
        if (wrong != 0 || right == 0) {
            System.exit(1);
        }
    }

    static void type(PolytopeDescent x, String text) {
        x.clearText();
        for (int i = 0; i < text.length(); i++) {
            x.append(text.charAt(i));
        }
    }

    static PolytopeDescent loaded(String text) {
        PolytopeDescent x = new PolytopeDescent();
        type(x, text);
        x.load();
        return x;
    }

    /** All that can be asked of the state, as one text: for "changes nothing" and for undo. */
    static String look(PolytopeDescent x) {
        StringBuilder all = new StringBuilder();
        for (int what = 0; what <= 6; what++) {
            all.append(x.about(what)).append(' ');
        }
        for (int i = 0; i < x.about(4); i++) {
            all.append(x.atom(i, 0)).append(':').append(x.atom(i, 1)).append(' ');
        }
        for (int k = 0; k < x.about(3); k++) {
            for (int j = 0; j <= x.about(0); j++) {
                all.append(x.row(k, j)).append(' ');
            }
        }
        for (int i = 0; i < x.about(2); i++) {
            for (int j = 0; j < x.about(0); j++) {
                all.append(x.vertex(i, j)).append(' ');
            }
        }
        return all.append(x.value()).append(' ').append(x.gap()).toString();
    }

    /** The mixture as "vertex:units" in the order of the atoms. */
    static String mixture(PolytopeDescent x) {
        StringBuilder all = new StringBuilder();
        for (int i = 0; i < x.about(4); i++) {
            all.append(i == 0 ? "" : " ").append(x.atom(i, 0)).append(':').append(x.atom(i, 1));
        }
        return all.toString();
    }

    /** The state alone: counts, mixture and rows. */
    static String state(PolytopeDescent x) {
        StringBuilder all = new StringBuilder(mixture(x)).append(" steps ").append(x.about(5));
        all.append(" drops ").append(x.about(6)).append(" rows");
        int rows = x.about(3);
        int d = x.about(0);
        for (int k = 0; k < rows; k++) {
            for (int j = 0; j <= d; j++) {
                all.append(' ').append(x.row(k, j));
            }
        }
        return all.toString();
    }

    /** The vertices as "coordinates coordinates ..", in their order. */
    static String vertices(PolytopeDescent x) {
        StringBuilder all = new StringBuilder();
        int n = x.about(2);
        int d = x.about(0);
        for (int i = 0; i < n; i++) {
            all.append(i == 0 ? "" : " ");
            for (int j = 0; j < d; j++) {
                all.append(x.vertex(i, j));
            }
        }
        return all.toString();
    }

    /** All that can ever be seen of an object, which is used up by it: state, memory, slots, text. */
    static String lastLook(PolytopeDescent x) {
        StringBuilder all = new StringBuilder(vertices(x)).append(" | ").append(state(x));
        boolean more = true;
        while (more) {
            more = addState(all, x, "undo", x::undo);
        }
        addState(all, x, "slot 0", () -> x.restore(0));
        addState(all, x, "slot 1", () -> x.restore(1));
        all.append(" | error ").append(x.errorPosition());
        addState(all, x, "load", x::load);
        return all.append(" | ").append(vertices(x)).append(" | text ").append(x.clearText()).toString();
    }

    private static boolean addState(StringBuilder all, PolytopeDescent x, String what, Callable<Integer> call) {
        all.append(" | ").append(what).append(' ');
        try {
            all.append(call.call()).append(' ').append(state(x));
            return true;
        } catch (Exception e) {
            all.append(e.getClass().getSimpleName());
            return false;
        }
    }
}
