/** Promises 17 to 29: what is asked of the mixture without changing it. */
public final class MixtureTest {
    private static final Check CHECK = new Check("MixtureTest");

    /** The box with the corners 00 05 30 35; rows x - 2y = 7 and -3x + 4y = -8. */
    private static PolytopeDescent box() {
        PolytopeDescent x = Check.loaded("P2b35r+1-2+07r-3+4-08");
        x.transfer(0, 1, 20);
        x.transfer(0, 2, 50);
        return x;
    }

    private static void numbers() {
        PolytopeDescent x = box();
        CHECK.due("point 0", x.point(0), 150);
        CHECK.due("point 1", x.point(1), 100);
        CHECK.dueIndex("point -1", () -> x.point(-1));
        CHECK.dueIndex("point 2", () -> x.point(2));
        CHECK.due("residual 0", x.residual(0), 150 - 200 - 700);
        CHECK.due("residual 1", x.residual(1), -450 + 400 + 800);
        CHECK.dueIndex("residual -1", () -> x.residual(-1));
        CHECK.dueIndex("residual 2", () -> x.residual(2));
        CHECK.due("slope of coordinate 0", x.slope(0, false), 2 * (-750 - 3 * 750));
        CHECK.due("slope of coordinate 1", x.slope(1, false), 2 * (1500 + 4 * 750));
        CHECK.due("slope of vertex 0", x.slope(0, true), 0);
        CHECK.due("slope of vertex 3", x.slope(3, true), 3 * -6000 + 5 * 9000);
        CHECK.dueIndex("slope of coordinate 2", () -> x.slope(2, false));
        CHECK.dueIndex("slope of coordinate -1", () -> x.slope(-1, false));
        CHECK.dueIndex("slope of vertex 4", () -> x.slope(4, true));
        CHECK.dueIndex("slope of vertex -1", () -> x.slope(-1, true));
        CHECK.due("value", x.value(), 2 * 750L * 750L);
        CHECK.due("gap", x.gap(), 150L * -6000 + 100L * 9000 - 100L * (3 * -6000));
        CHECK.due("best", x.best(), 2);
        CHECK.due("worst", x.worst(), 1);
        CHECK.due("face", x.face(), 1 << 2);
        CHECK.due("bestAlone", x.bestAlone(), 2);
    }

    private static void largest() {
        PolytopeDescent x = Check.loaded("P4b9999" + "r+9+9+9+9-99".repeat(4));
        x.reset(15);
        CHECK.due("the greatest residual", x.residual(3), 42300);
        CHECK.due("the greatest value", x.value(), 4L * 42300 * 42300);
        CHECK.due("the greatest slope", x.slope(15, true), 36L * 2 * 4 * 42300 * 9);
        CHECK.due("the greatest gap", x.gap(), 3600L * 2 * 4 * 42300 * 9);
    }

    private static void ties() {
        PolytopeDescent x = Check.loaded("P2b35r+0+0+07");
        x.transfer(0, 3, 40);
        x.transfer(0, 1, 60);
        CHECK.due("all slopes are 0: best", x.best(), 0);
        CHECK.due("all slopes are 0: worst", x.worst(), 0);
        CHECK.due("all slopes are 0: face", x.face(), 15);
        CHECK.due("all slopes are 0: gap", x.gap(), 0);
        CHECK.due("all values are equal: bestAlone", x.bestAlone(), 0);
        PolytopeDescent y = Check.loaded("P2b99r+1+0+05");
        y.transfer(0, 3, 1);
        CHECK.due("face with two vertices", y.face(), 12);
        CHECK.due("best of two", y.best(), 2);
        PolytopeDescent z = Check.loaded("P4p1234r+0+0+0+0+00");
        CHECK.due("face of 24 vertices", z.face(), (1 << 24) - 1);
        PolytopeDescent w = Check.loaded("P1l3468r+1+06");
        w.reset(2);
        CHECK.due("bestAlone does not look at the mixture", w.bestAlone(), 1);
        PolytopeDescent v = Check.loaded("P1l248r+1+06");
        CHECK.due("bestAlone of two equal ones", v.bestAlone(), 0);
    }

    private static void asking() {
        PolytopeDescent x = Check.loaded("P2b35r+1-2+07");
        CHECK.due("oracle(1, 1)", x.oracle(1, 1, 0, 0), 0);
        CHECK.due("oracle(-1, -1)", x.oracle(-1, -1, 0, 0), 3);
        CHECK.due("oracle(-999, 999)", x.oracle(-999, 999, -999, 999), 2);
        CHECK.due("oracle(0, 0)", x.oracle(0, 0, -1, -1), 0);
        CHECK.due("oracle(0, -1)", x.oracle(0, -1, 0, 0), 1);
        for (int i = 0; i < 4; i++) {
            int[] f = new int[4];
            f[i] = 1000;
            CHECK.dueArgument("oracle with 1000 at " + i, () -> x.oracle(f[0], f[1], f[2], f[3]));
            int[] g = new int[4];
            g[i] = -1000;
            CHECK.dueArgument("oracle with -1000 at " + i, () -> x.oracle(g[0], g[1], g[2], g[3]));
        }
    }

    private static void fraction(PolytopeDescent x, int v, int w, long upper, long lower) {
        CHECK.due("numerator of " + v + " to " + w, x.search(v, w, true), upper);
        CHECK.due("denominator of " + v + " to " + w, x.search(v, w, false), lower);
    }

    private static void searching() {
        PolytopeDescent x = Check.loaded("P1l4369" + "2" + "r+1+05");
        fraction(x, 0, 3, 3, 7);
        fraction(x, 3, 0, 4, 7);
        fraction(x, 1, 2, 2, 3);
        fraction(x, 0, 1, 1, 1);
        fraction(x, 1, 0, 0, 1);
        fraction(x, 2, 3, 0, 1);
        fraction(x, 2, 2, 0, 1);
        CHECK.dueIndex("search from -1", () -> x.search(-1, 0, true));
        CHECK.dueIndex("search from 4", () -> x.search(4, 0, true));
        CHECK.dueIndex("search to -1", () -> x.search(0, -1, false));
        CHECK.dueIndex("search to 4", () -> x.search(0, 4, false));
        PolytopeDescent flat = Check.loaded("P2b35r+1+0+07");
        fraction(flat, 0, 1, 0, 1);
    }

    private static void previewing() {
        PolytopeDescent x = Check.loaded("P1l3059r+1+05");
        CHECK.dueArgument("preview of kind -1", () -> x.preview(-1, 0));
        CHECK.dueArgument("preview of kind 3", () -> x.preview(3, 0));
        CHECK.dueArgument("preview of number -1", () -> x.preview(0, -1));
        CHECK.dueArgument("preview of number 4", () -> x.preview(0, 4));
        CHECK.dueArgument("preview of number 4 of a step that is not possible", () -> x.preview(1, 4));
        for (int what = 0; what <= 3; what++) {
            CHECK.due("preview of a step that is not possible", x.preview(1, what), PolytopeDescent.NONE);
        }
        x.transfer(0, 1, 31);
        x.transfer(0, 2, 29);
        String before = Check.look(x);
        for (int kind = 0; kind <= 2; kind++) {
            long t = x.preview(kind, 0);
            long value = x.preview(kind, 1);
            long gap = x.preview(kind, 2);
            long atoms = x.preview(kind, 3);
            CHECK.isTrue("preview changes nothing", before.equals(Check.look(x)));
            CHECK.due("t of kind " + kind, t, x.step(kind));
            CHECK.due("value of kind " + kind, value, x.value());
            CHECK.due("gap of kind " + kind, gap, x.gap());
            CHECK.due("atoms of kind " + kind, atoms, x.about(4));
            CHECK.due("preview is no action", x.undo(), 2);
        }
        // 28 * 0 + 37 * 5 + 35 * 9 is 500: rounding, too, meets the target.
        CHECK.due("the value is that of the rounded mixture", x.preview(1, 1), 0);
    }

    private static void countingSteps() {
        PolytopeDescent x = Check.loaded("P1s1r+8+01");
        CHECK.dueArgument("stepsUntil of kind -1", () -> x.stepsUntil(-1, 0));
        CHECK.dueArgument("stepsUntil of kind 3", () -> x.stepsUntil(3, 0));
        CHECK.dueArgument("stepsUntil with limit -1", () -> x.stepsUntil(0, -1));
        CHECK.due("the gap first", x.gap(), 160000);
        CHECK.due("a limit that holds already", x.stepsUntil(0, 160000), 0);
        CHECK.due("a limit that holds already needs no step", x.stepsUntil(1, 160000), 0);
        CHECK.due("away is not possible", x.stepsUntil(1, 159999), PolytopeDescent.NONE);
        CHECK.due("one step", x.stepsUntil(0, 159999), 1);
        long then = x.preview(0, 2);
        CHECK.due("the gap then: 88 * 64", then, 88 * 64);
        CHECK.due("exactly the gap then", x.stepsUntil(0, then), 1);
        CHECK.due("pairwise steps stop there", x.stepsUntil(2, then - 1), PolytopeDescent.NONE);
        CHECK.due("the largest limit", x.stepsUntil(2, Long.MAX_VALUE), 0);
        CHECK.due("stepsUntil makes no step", x.about(5), 0);
        CHECK.dueState("and is no action", x::undo);
        PolytopeDescent y = Check.loaded("P2b99r+1+0+04r+0+1+07");
        int n = y.stepsUntil(0, 10950);
        CHECK.due("several steps", n, 4);
        y.run(0, 3);
        CHECK.isTrue("one step less is too few", y.gap() > 10950);
        y.step(0);
        CHECK.isTrue("so many are enough", y.gap() <= 10950);
        CHECK.due("the gap may grow again, the first time counts", y.stepsUntil(0, y.gap()), 0);
    }

    /** A descent whose gap after 50 steps is smaller than ever before, and still not 0. */
    private static void fiftySteps() {
        PolytopeDescent x = Check.loaded("P3c6r-9+3-1+18r-9+8-9-00r-6-1+1-14");
        x.reset(1);
        CHECK.due("fifty steps count", x.stepsUntil(2, 52008), 50);
        CHECK.due("a fifty-first does not", x.stepsUntil(2, 52007), PolytopeDescent.NONE);
        CHECK.due("fifty steps are made", x.run(2, 50), 50);
        CHECK.due("the gap then", x.gap(), 52008);
        CHECK.isTrue("more steps would follow", x.preview(2, 0) > 0);
    }

    public static void main(String[] args) {
        numbers();
        largest();
        ties();
        asking();
        searching();
        previewing();
        countingSteps();
        fiftySteps();
        CHECK.close();
    }
}
