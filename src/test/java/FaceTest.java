import java.io.IOException;
import java.lang.reflect.Constructor;
import java.lang.reflect.Field;
import java.lang.reflect.Method;
import java.lang.reflect.Modifier;
import java.nio.file.Files;
import java.nio.file.Path;
import java.util.ArrayList;
import java.util.HashSet;
import java.util.List;
import java.util.Set;
import java.util.TreeSet;

/** The face is the document's and no more, and the source keeps clear of what LANGUAGE.md rules out. */
public final class FaceTest {
    private static final Check CHECK = new Check("FaceTest");
    private static final String A = "IllegalArgumentException";
    private static final String I = "IndexOutOfBoundsException";
    private static final String S = "IllegalStateException";
    private static final String[] FACE = {
        "int append(int) " + A + " " + S, "int clearText()", "int errorPosition()", "int load() " + S,
        "int about(int) " + A, "int vertex(int,int) " + I, "int row(int,int) " + I, "int atom(int,int) " + I + " " + A,
        "int find(int,int,int,int)", "int step(int) " + A + " " + S, "int run(int,int) " + A,
        "int transfer(int,int,int) " + I + " " + A, "int reset(int) " + I, "int setRow(int,int,int) " + I + " " + A,
        "int undo() " + S, "int point(int) " + I, "int residual(int) " + I, "long slope(int,boolean) " + I, "long value()",
        "long gap()", "int best()", "int worst()", "int face()", "int oracle(int,int,int,int) " + A, "int bestAlone()",
        "long search(int,int,boolean) " + I, "long preview(int,int) " + A, "int stepsUntil(int,long) " + A,
        "int runScript(int,long) " + A, "long simulate(long,int) " + A, "int save(int) " + I, "int restore(int) " + I + " " + S,
    };
    private static final String[] RULED_OUT = {"->", "::", "\\bimport\\b", "\\bpackage\\b", "\\btry\\b", "\\bcatch\\b",
        "\\bfinally\\b", "\\bassert\\b", "\\bsynchronized\\b", "\\bstatic \\{", "Exact\\(", "\\bdouble\\b", "\\bfloat\\b",
        "\\binstanceof\\b", "\\bSystem\\.(?!arraycopy)", "\\bRandom\\b", "\\bThread\\b", "while \\(true\\)", "for \\(;;\\)"};

    private static String signature(Method m) {
        List<String> parameters = new ArrayList<>();
        for (Class<?> p : m.getParameterTypes()) {
            parameters.add(p.getName());
        }
        StringBuilder s = new StringBuilder(m.getReturnType().getName() + " " + m.getName());
        s.append('(').append(String.join(",", parameters)).append(')');
        for (Class<?> e : m.getExceptionTypes()) {
            s.append(' ').append(e.getSimpleName());
        }
        return s.toString();
    }

    private static void face() {
        Class<?> c = PolytopeDescent.class;
        CHECK.isTrue("public and final", Modifier.isPublic(c.getModifiers()) && Modifier.isFinal(c.getModifiers()));
        Set<String> open = new TreeSet<>();
        Set<String> names = new HashSet<>();
        for (Method m : c.getDeclaredMethods()) {
            if (Modifier.isPublic(m.getModifiers())) {
                open.add(signature(m));
                names.add(m.getName());
            } else {
                CHECK.isTrue(m + " is private", Modifier.isPrivate(m.getModifiers()));
            }
        }
        CHECK.isTrue("the public methods are " + open, open.equals(new TreeSet<>(List.of(FACE))));
        for (Field f : c.getDeclaredFields()) {
            boolean constant = f.getName().equals("NONE") && Modifier.isPublic(f.getModifiers());
            CHECK.isTrue(f + " is private", constant || Modifier.isPrivate(f.getModifiers()));
            CHECK.isTrue(f + " is final if static", !Modifier.isStatic(f.getModifiers()) || Modifier.isFinal(f.getModifiers()));
        }
        for (Constructor<?> k : c.getDeclaredConstructors()) {
            CHECK.isTrue(k + " is the only constructor", Modifier.isPublic(k.getModifiers()) && k.getParameterCount() == 0);
        }
        inside(c, names);
    }

    private static void inside(Class<?> c, Set<String> names) {
        CHECK.isTrue("at most twelve classes", c.getDeclaredClasses().length <= 11);
        for (Class<?> n : c.getDeclaredClasses()) {
            CHECK.isTrue(n + " is static", Modifier.isStatic(n.getModifiers()) && !Modifier.isPublic(n.getModifiers()));
            CHECK.isTrue(n + " has few fields", n.getDeclaredFields().length <= 20);
            for (Method m : n.getDeclaredMethods()) {
                CHECK.isTrue(m + " takes at most seven", m.getParameterCount() <= 7);
                CHECK.isTrue(m + " bears no public name", !names.contains(m.getName()));
            }
        }
        for (Method m : c.getDeclaredMethods()) {
            boolean open = Modifier.isPublic(m.getModifiers());
            CHECK.isTrue(m + " bears no public name", open || !names.contains(m.getName()));
        }
    }

    private static void source() throws IOException {
        String source = Files.readString(Path.of("src/main/java/PolytopeDescent.java"));
        String code = source.replaceAll("(?s)/\\*.*?\\*/", "").replaceAll("//[^\n]*", "").replaceAll("\"[^\"]*\"", "\"\"");
        for (String word : RULED_OUT) {
            CHECK.isTrue("the source has no " + word, !java.util.regex.Pattern.compile(word).matcher(code).find());
        }
        int longest = 0;
        for (String line : source.split("\n")) {
            longest = Math.max(longest, line.length());
        }
        CHECK.isTrue("lines stay readable", longest <= 120);
    }

    public static void main(String[] args) throws IOException {
        face();
        source();
        CHECK.close();
    }
}
