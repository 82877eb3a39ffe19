import java.util.function.Supplier;

/** The boundary cases of the section STEPS and of the promises 11, 12, 27, 28 and 29; each method holds one sentence. */
public final class StepEdgeTest {
    private static final Check CHECK = new Check("StepEdgeTest");
    private static final int NONE = PolytopeDescent.NONE;
    private static final int[] WRONG_KINDS = {Integer.MIN_VALUE, -256, -1, 3, 4, 256, Integer.MAX_VALUE};
    private static final Class<IllegalArgumentException> ARGUMENT = IllegalArgumentException.class;
    private static final Class<IllegalStateException> STATE = IllegalStateException.class;

    private static PolytopeDescent busy() {
        PolytopeDescent x = Check.loaded("P2b35r+1-2+07r-3+4-08");
        x.step(2);
        x.save(0);
        x.transfer(0, 3, 7);
        return x;
    }

    private static PolytopeDescent oneAtom() {
        PolytopeDescent x = Check.loaded("P2b35r+1-2+07r-3+4-08");
        x.step(0);
        x.save(0);
        x.reset(3);
        return x;
    }

    private static void step(String what, PolytopeDescent x, int kind, int t, String mixture) {
        String before = Check.mixture(x);
        CHECK.due(what + ": preview of t from " + before, x.preview(kind, 0), t);
        CHECK.due(what + ": t from " + before, x.step(kind), t);
        CHECK.same(what + ": the mixture", Check.mixture(x), mixture);
    }

    /** A segment from 0 to the size; the two rows put the lowest value at 2 * (first target + 7 * second target). */
    private static PolytopeDescent segment(int size, int first, int second) {
        String tens = (first < 10 ? "0" : "") + first;
        String moreTens = (second < 10 ? "0" : "") + second;
        return Check.loaded("P1s" + size + "r+1+" + tens + "r+7+" + moreTens);
    }

    /** "kind 0 (towards): t from 0 to 100", "the smallest whole number .. for which the value .. is smallest". */
    private static void towardsRange() {
        step("0.4 of a unit is none", segment(5, 1, 0), 0, 0, "0:100");
        step("0.5: the smaller of 0 and 1", segment(4, 1, 0), 0, 0, "0:100");
        step("0.67 of a unit is one", segment(3, 1, 0), 0, 1, "0:99 1:1");
        step("exactly 1", segment(2, 1, 0), 0, 1, "0:99 1:1");
        step("66.67 is nearer to 67", Check.loaded("P1s1r+1+01r+1+01r+1+00"), 0, 67, "0:33 1:67");
        step("exactly 99", segment(2, 1, 14), 0, 99, "0:1 1:99");
        step("99.5: the smaller of 99 and 100", segment(4, 3, 28), 0, 99, "0:1 1:99");
        step("exactly 100", segment(2, 2, 14), 0, 100, "1:100");
        step("more than 100 is not in the range", segment(2, 3, 14), 0, 100, "1:100");
        step("much more", segment(1, 99, 99), 0, 100, "1:100");
    }

    /** "kind 1 (away): .. t from 0 to w", also the smallest. */
    private static void awayRange() {
        step("exactly 39 of 40", sixty(segment(2, 1, 14)), 1, 39, "0:1 1:99");
        step("39.5: the smaller of 39 and 40", sixty(segment(4, 3, 28)), 1, 39, "0:1 1:99");
        step("exactly 40 of 40", sixty(segment(2, 2, 14)), 1, 40, "1:100");
        step("more than 40 is not in the range", sixty(segment(2, 3, 14)), 1, 40, "1:100");
        step("much more", sixty(segment(1, 99, 99)), 1, 40, "1:100");
        step("0 of 40", sixty(segment(5, 3, 21)), 1, 0, "0:40 1:60");
        step("0.5: the smaller of 0 and 1", part(Check.loaded("P1s8r+1+03"), 37), 1, 0, "0:63 1:37");
        step("1.5: the smaller of 1 and 2", part(Check.loaded("P1s8r+1+03"), 36), 1, 1, "0:63 1:37");
        step("0.5 from the other side", part(Check.loaded("P1s8r+1+03"), 38), 1, 0, "0:62 1:38");
        step("1.5 from the other side", part(Check.loaded("P1s8r+1+03"), 39), 1, 1, "0:62 1:38");
    }

    /** "kind 2 (pairwise): t from 0 to w", also the smallest. */
    private static void pairwiseRange() {
        step("0.5: the smaller of 0 and 1", segment(4, 1, 0), 2, 0, "0:100");
        step("0.67 of a unit is one", segment(3, 1, 0), 2, 1, "0:99 1:1");
        step("exactly 39 of 40", sixty(segment(2, 1, 14)), 2, 39, "0:1 1:99");
        step("39.5: the smaller of 39 and 40", sixty(segment(4, 3, 28)), 2, 39, "0:1 1:99");
        step("exactly 40 of 40", sixty(segment(2, 2, 14)), 2, 40, "1:100");
        step("more than 40 is not in the range", sixty(segment(2, 3, 14)), 2, 40, "1:100");
        step("all of 100", segment(2, 2, 14), 2, 100, "1:100");
        step("66.67 is nearer to 67", Check.loaded("P1s1r+1+01r+1+01r+1+00"), 2, 67, "0:33 1:67");
        step("33.33 is nearer to 33", Check.loaded("P1s1r+1+01r+1+00r+1+00"), 2, 33, "0:67 1:33");
        step("0.5 of 63", part(Check.loaded("P1s8r+1+03"), 37), 2, 0, "0:63 1:37");
        step("1.5 of 64", part(Check.loaded("P1s8r+1+03"), 36), 2, 1, "0:63 1:37");
        step("0.5 from the other side", part(Check.loaded("P1s8r+1+03"), 38), 2, 0, "0:62 1:38");
        step("from the best vertex to itself", segment(2, 0, 0), 2, 0, "0:100");
    }

    private static PolytopeDescent sixty(PolytopeDescent x) {
        return part(x, 60);
    }

    private static PolytopeDescent part(PolytopeDescent x, int units) {
        x.transfer(0, 1, units);
        return x;
    }

    /** "the value of the point X + (t / 100) * (100 * s - X), computed exactly": fractions are not cut off. */
    private static void exactly() {
        // From X = 296 the way to 800 is 504; the residual -4 + 5.04 * t is nearest to 0 for t = 1.
        step("towards", part(Check.loaded("P1s8r+1+03"), 37), 0, 1, "0:62 1:38");
        // From X = 7 the residual is -37 + 8.37 * t, which is lowest for 4; with whole coordinates it would be for 5.
        step("towards from 7", part(Check.loaded("P1s1r+9+01"), 7), 0, 4, "0:89 1:11");
        // X = 33 * 10; away from vertex 0 it grows by 5 a unit, and the lowest value is at 336.
        step("away by 1.2", thirds(1, 2), 1, 1, "0:33 1:34 2:33");
    }

    /** Vertices 0, 4, 6 with the units 34, 33, 33; the lowest value is at 336. */
    private static PolytopeDescent thirds(int firstToCome, int secondToCome) {
        PolytopeDescent x = Check.loaded("P1l3046r+1+00r+7+24");
        x.transfer(0, firstToCome, 33);
        x.transfer(0, secondToCome, 33);
        return x;
    }

    /**
     * Points 00 10 .. on a line, and the hub 01, which is vertex 1; only the hub has a coordinate 1. The row's factor is
     * 5, and so the lowest value is at 20 times the target units of the hub.
     */
    private static PolytopeDescent hub(int target, int... units) {
        PolytopeDescent x = Check.loaded("P2l8" + "0001102030405060" + "r+0+5+0" + target);
        x.reset(1);
        spread(x, units);
        CHECK.due("the hub has no units", x.atom(0, 0), 0);
        return x;
    }

    /** The hub, which has all units, gives them to the other points in their order. */
    private static void spread(PolytopeDescent x, int... units) {
        int[] others = {0, 2, 3, 4, 5, 6, 7};
        for (int i = 0; i < units.length; i++) {
            x.transfer(0, others[i], units[i]);
        }
    }

    /** "all products are rounded down; as many units as are missing .. are given .., one each: to .. the greatest remainders". */
    private static void remainders() {
        // 12 * 0.8 = 9.6, 24 * 0.8 = 19.2, 64 * 0.8 = 51.2
        step("one is missing", hub(1, 12, 24, 64), 0, 20, "0:10 2:19 3:51 1:20");
        // 11 * 0.8 = 8.8, 23 * 0.8 = 18.4, 66 * 0.8 = 52.8
        step("two are missing, not side by side", hub(1, 11, 23, 66), 0, 20, "0:9 2:18 3:53 1:20");
        // 13 * 0.8 = 10.4, 19 * 0.8 = 15.2, 68 * 0.8 = 54.4
        step("the earlier of two equal remainders", hub(1, 13, 19, 68), 0, 20, "0:11 2:15 3:54 1:20");
        // 19 * 0.8 = 15.2, 13 * 0.8 = 10.4, 68 * 0.8 = 54.4
        step("the earlier of two behind a smaller one", hub(1, 19, 13, 68), 0, 20, "0:15 2:11 3:54 1:20");
        step("nothing is missing", hub(1, 10, 25, 65), 0, 20, "0:8 2:20 3:52 1:20");
        // 14 * 0.4 = 5.6 five times, 15 * 0.4 = 6 twice
        step("three for five equal ones", hub(3, 14, 14, 14, 15, 14, 15, 14), 0, 60,
            "0:6 2:6 3:6 4:6 5:5 6:6 7:5 1:60");
        step("one each, none gets two", hub(2, 21, 21, 21, 37), 0, 40, "0:13 2:13 3:12 4:22 1:40");
    }

    /** The same order of atoms decides for away steps, and the worst atom itself is not concerned. */
    private static void remaindersAway() {
        step("the earlier atom", thirds(1, 2), 1, 1, "0:33 1:34 2:33");
        step("earlier as an atom, not as a vertex", thirds(2, 1), 1, 1, "0:33 2:34 1:33");
        // The hub is the worst: 30 units become 20, the others 70 become 80: 33 * 8 / 7 = 37.71, 37 * 8 / 7 = 42.29
        step("the worst atom came first", hubFirst(30, 33, 37), 1, 10, "1:20 0:38 2:42");
        step("exact products", hubFirst(30, 35, 35), 1, 10, "1:20 0:40 2:40");
    }

    /** The hub comes first and keeps the given units; its target is 20. */
    private static PolytopeDescent hubFirst(int kept, int... units) {
        PolytopeDescent x = Check.loaded("P2l8" + "0001102030405060" + "r+0+5+01");
        x.reset(1);
        spread(x, units);
        CHECK.due("the hub keeps", x.atom(0, 1), kept);
        return x;
    }

    /** The smallest and the greatest share that the worst atom of an away step can have: 1 and 99. */
    private static void awayShares() {
        step("99 of 100", hubFirst(99, 1), 1, 79, "1:20 0:80");
        PolytopeDescent x = hubFirst(99, 1);
        x.setRow(0, 2, 0);
        step("99 of 99", x, 1, 99, "0:100");
        CHECK.due("a drop", x.about(6), 1);
        PolytopeDescent y = hubFirst(1, 49, 50);
        y.setRow(0, 2, 0);
        // 49 * 100 / 99 = 49.49, 50 * 100 / 99 = 50.51
        step("1 of 1", y, 1, 1, "0:49 2:51");
        CHECK.due("a drop", y.about(6), 1);
    }

    /** "Atoms without units are removed (dropped) after the step, and each of them counts as a drop". */
    private static void drops() {
        // 1 * 0.4 twice, 98 * 0.4 = 39.2: one unit is missing, and the first has the greatest remainder.
        PolytopeDescent x = hub(3, 1, 1, 98);
        step("rounded down to nothing", x, 0, 60, "0:1 3:39 1:60");
        CHECK.due("one drop", x.about(6), 1);
        PolytopeDescent y = hub(3, 1, 98, 1);
        step("the last one", y, 0, 60, "0:1 2:39 1:60");
        CHECK.due("one drop", y.about(6), 1);
        PolytopeDescent z = hub(5, 10, 10, 10, 10, 10, 10, 40);
        step("all but the hub", z, 0, 100, "1:100");
        CHECK.due("seven drops", z.about(6), 7);
        PolytopeDescent w = hub(4, 1, 1, 1, 1, 1, 1, 94);
        // 94 * 0.2 = 18.8 and six times 0.2: 20 - 18 = 2 are missing, for the last atom and for the first.
        step("five of seven", w, 0, 80, "0:1 7:19 1:80");
        CHECK.due("five drops", w.about(6), 5);
    }

    /** "a vertex s that gets 0 units and had none is no atom, and no drop", "Each step counts as a step, also if t is 0." */
    private static void nothingMoved() {
        int[] kinds = {0, 2};
        for (int kind : kinds) {
            PolytopeDescent x = segment(4, 1, 0);
            CHECK.due("vertex 1 is the best", x.best(), 1);
            CHECK.isTrue("there is a gap", x.gap() > 0);
            step("nothing is moved", x, kind, 0, "0:100");
            CHECK.due("no atom", x.about(4), 1);
            CHECK.due("no drop", x.about(6), 0);
            CHECK.due("a step", x.about(5), 1);
            CHECK.due("an action", x.undo(), 0);
        }
        PolytopeDescent y = part(Check.loaded("P1s8r+1+03"), 37);
        step("nothing is moved away", y, 1, 0, "0:63 1:37");
        CHECK.due("a step", y.about(5), 1);
        CHECK.due("no drop", y.about(6), 0);
    }

    /**
     * "The units of each vertex are multiplied .., rounded .., and then s gets t units.", "Atoms without units are removed
     * (dropped) after the step": s, an atom that is rounded down to nothing and then filled, has units after the step.
     */
    private static void bestVertexKeepsItsPlace() {
        PolytopeDescent x = Check.loaded("P1l209r+1+08");
        x.transfer(0, 1, 100);
        x.transfer(0, 0, 99);
        step("rounded to nothing, then filled", x, 0, 89, "1:89 0:11");
        CHECK.due("no drop", x.about(6), 0);
        PolytopeDescent y = Check.loaded("P1s9r+1+09");
        y.transfer(0, 1, 50);
        step("all units to an atom", y, 0, 100, "1:100");
        CHECK.due("one drop, not two", y.about(6), 1);
    }

    /** "only possible if there are two or more atoms", "if kind is 1 and there is only one atom". */
    private static void awayFromOne() {
        CHECK.refused("step(1) of one atom", STATE, StepEdgeTest::oneAtom, z -> z.step(1));
        CHECK.refused("step(1) of a new object", STATE, PolytopeDescent::new, z -> z.step(1));
        CHECK.refused("step(1) of one vertex", STATE, () -> Check.loaded("P1l15r+1+00"), z -> z.step(1));
        PolytopeDescent two = Check.loaded("P1l209r+1+00");
        two.transfer(0, 1, 1);
        step("two atoms are enough", two, 1, 1, "0:100");
        CHECK.dueState("then it is one again", () -> two.step(1));
        CHECK.due("and the refused step is none", two.about(5), 1);
    }

    /** "kind: 0 to 2", "if kind is out of range". */
    private static void kinds() {
        for (int kind = 0; kind <= 2; kind++) {
            CHECK.isTrue("kind " + kind, busy().step(kind) >= 0);
        }
        for (int kind : WRONG_KINDS) {
            CHECK.refused("step(" + kind + ")", ARGUMENT, StepEdgeTest::busy, z -> z.step(kind));
            CHECK.refused("step(" + kind + ") of one atom", ARGUMENT, StepEdgeTest::oneAtom, z -> z.step(kind));
            CHECK.refused("run(" + kind + ", 1)", ARGUMENT, StepEdgeTest::busy, z -> z.run(kind, 1));
            CHECK.refused("preview(" + kind + ", 0)", ARGUMENT, StepEdgeTest::busy, z -> z.preview(kind, 0));
            CHECK.refused("preview(" + kind + ", 0) of one", ARGUMENT, StepEdgeTest::oneAtom, z -> z.preview(kind, 0));
            CHECK.refused("stepsUntil(" + kind + ", 0)", ARGUMENT, StepEdgeTest::busy, z -> z.stepsUntil(kind, 0));
        }
    }

    private static PolytopeDescent slow() {
        PolytopeDescent x = Check.loaded("P3c6r-9+3-1+18r-9+8-9-00r-6-1+1-14");
        x.reset(1);
        return x;
    }

    /** "n: 1 to 50", "as long as fewer than n were made". */
    private static void runLengths() {
        int[] wrong = {Integer.MIN_VALUE, -1, 0, 51, 52, 256 + 50, Integer.MAX_VALUE};
        for (int n : wrong) {
            CHECK.refused("run(2, " + n + ")", ARGUMENT, StepEdgeTest::busy, z -> z.run(2, n));
            CHECK.refused("run(1, " + n + ") of one atom", ARGUMENT, StepEdgeTest::oneAtom, z -> z.run(1, n));
        }
        int[] right = {1, 2, 49, 50};
        for (int n : right) {
            PolytopeDescent x = slow();
            CHECK.due("run(2, " + n + ")", x.run(2, n), n);
            CHECK.due("steps", x.about(5), n);
            CHECK.due("one action", x.undo(), 1);
            CHECK.due("taken back at once", x.about(5), 0);
        }
    }

    /** "the gap is not 0": a run without a gap makes no step, and one that closes it makes no more. */
    private static void runUntilNoGap() {
        for (int kind = 0; kind <= 2; kind++) {
            PolytopeDescent x = part(Check.loaded("P1s1r+4+01"), 25);
            CHECK.due("no gap", x.gap(), 0);
            CHECK.due("no step of kind " + kind, x.run(kind, 50), 0);
            CHECK.due("none is counted", x.about(5), 0);
            CHECK.due("but it is an action", x.undo(), 1);
        }
        PolytopeDescent y = Check.loaded("P1s1r+4+01");
        CHECK.due("one step closes the gap", y.run(2, 50), 1);
        CHECK.due("no gap then", y.gap(), 0);
        PolytopeDescent z = Check.loaded("P1s1r+1+99");
        CHECK.due("the vertex with all units", z.run(0, 50), 1);
    }

    /** "the step is possible": a run of away steps ends where one atom is left. */
    private static void runWhilePossible() {
        PolytopeDescent x = Check.loaded("P2b99r+2+1+00");
        x.reset(1);
        x.transfer(0, 2, 20);
        x.transfer(0, 3, 30);
        CHECK.due("two atoms go, and the last stays", x.run(1, 50), 2);
        CHECK.due("one atom", x.about(4), 1);
        CHECK.isTrue("with a gap", x.gap() > 0);
        CHECK.due("no further step", x.run(1, 50), 0);
        CHECK.due("which is an action all the same", x.undo(), 4);
        CHECK.due("new object: no away step", new PolytopeDescent().run(1, 1), 0);
    }

    /** "the step before (if there was one in this call) moved any units". */
    private static void runWhileMoving() {
        PolytopeDescent x = Check.loaded("P1s1r+8+01");
        CHECK.due("12 units, then none", x.run(2, 50), 2);
        CHECK.due("the step without units counts", x.about(5), 2);
        CHECK.isTrue("with a gap", x.gap() > 0);
        CHECK.due("the step before was in another call", x.run(2, 50), 1);
        CHECK.due("it counts, too", x.about(5), 3);
        CHECK.due("n ends it first", Check.loaded("P1s1r+8+01").run(2, 1), 1);
    }

    private static void fraction(String text, int v, int w, long upper, long lower) {
        PolytopeDescent x = Check.loaded(text);
        CHECK.due(text + ": numerator from " + v + " to " + w, x.search(v, w, true), upper);
        CHECK.due(text + ": denominator from " + v + " to " + w, x.search(v, w, false), lower);
    }

    /** "the smallest g from 0 to 1 .. as a fraction in lowest terms (0 is 0 / 1)". */
    private static void searches() {
        fraction("P1s8r+1+03", 0, 1, 3, 8);
        fraction("P1s8r+1+03", 1, 0, 5, 8);
        fraction("P1s8r+1+04", 0, 1, 1, 2);
        fraction("P1s8r+1+00", 0, 1, 0, 1);
        fraction("P1s8r+1+00", 1, 0, 1, 1);
        fraction("P1s8r+1-01", 0, 1, 0, 1);
        fraction("P1s8r+1-01", 1, 0, 1, 1);
        fraction("P1s8r+1+08", 0, 1, 1, 1);
        fraction("P1s8r+1+09", 0, 1, 1, 1);
        fraction("P1s8r+1+99", 0, 1, 1, 1);
        fraction("P1s8r+1+09", 1, 0, 0, 1);
        fraction("P1s9r+9+80", 0, 1, 80, 81);
        fraction("P1s9r+9+01", 0, 1, 1, 81);
        fraction("P1s9r+9+81", 0, 1, 1, 1);
        fraction("P1s9r+9+82", 0, 1, 1, 1);
        // Four rows: 81 * target over 81 * 81 + 72 * 72 + 63 * 63 + 9 * 9, which is 81 * 195.
        fraction("P1s9r+9+01r+8+00r+7+00r+1+00", 0, 1, 1, 195);
        fraction("P1s9r+9+07r+8+00r+7+00r+1+00", 0, 1, 7, 195);
    }

    /** Every point of a line may be as good as the others: then 0 is the smallest g. */
    private static void flatSearches() {
        fraction("P2b35r+1+0+07", 0, 1, 0, 1);
        fraction("P2b35r+0+0+07", 0, 3, 0, 1);
        fraction("P2b35r+1+0+07", 3, 3, 0, 1);
        fraction("P2b11r+1-1+07", 0, 3, 0, 1);
        fraction("P1l15r+9+99", 0, 0, 0, 1);
    }

    /** "if there is no such vertex", of both, whichever number is asked for. */
    private static void noSuchVertex() {
        int[] wrong = {Integer.MIN_VALUE, -256, -1, 4, 5, 24, 256, Integer.MAX_VALUE};
        boolean[] sides = {true, false};
        for (int v : wrong) {
            for (boolean upper : sides) {
                CHECK.refused("search from " + v, IndexOutOfBoundsException.class, StepEdgeTest::busy,
                    z -> z.search(v, 0, upper));
                CHECK.refused("search to " + v, IndexOutOfBoundsException.class, StepEdgeTest::busy,
                    z -> z.search(3, v, upper));
            }
        }
        CHECK.due("between the last and the first", busy().search(3, 0, false) > 0 ? 1 : 0, 1);
    }

    /** "what: 0 to 3", "if kind or what is out of range", "NONE if the step is not possible". */
    private static void previews() {
        int[] wrong = {Integer.MIN_VALUE, -256, -1, 4, 5, 256, Integer.MAX_VALUE};
        for (int what : wrong) {
            CHECK.refused("preview(0, " + what + ")", ARGUMENT, StepEdgeTest::busy, z -> z.preview(0, what));
            CHECK.refused("preview(1, " + what + ") of one", ARGUMENT, StepEdgeTest::oneAtom, z -> z.preview(1, what));
        }
        for (int what = 0; what <= 3; what++) {
            CHECK.due("preview(1, " + what + ") of one atom", oneAtom().preview(1, what), NONE);
            CHECK.isTrue("preview(0, " + what + ") of one atom", oneAtom().preview(0, what) >= 0);
            CHECK.isTrue("preview(2, " + what + ") of one atom", oneAtom().preview(2, what) >= 0);
            CHECK.isTrue("preview(1, " + what + ") of two atoms", busy().preview(1, what) >= 0);
        }
        PolytopeDescent x = hub(3, 1, 1, 98);
        CHECK.due("t", x.preview(0, 0), 60);
        CHECK.due("the value then", x.preview(0, 1), 0);
        CHECK.due("the gap then", x.preview(0, 2), 0);
        CHECK.due("the atoms then", x.preview(0, 3), 3);
        PolytopeDescent y = segment(4, 1, 0);
        CHECK.due("a step that moves nothing: t", y.preview(0, 0), 0);
        CHECK.due("a step that moves nothing: value", y.preview(0, 1), y.value());
        CHECK.due("a step that moves nothing: gap", y.preview(0, 2), y.gap());
        CHECK.due("a step that moves nothing: atoms", y.preview(0, 3), 1);
    }

    /** "limit: 0 or more", "if kind is out of range or limit is negative". */
    private static void limits() {
        long[] wrong = {Long.MIN_VALUE, Integer.MIN_VALUE, -1};
        for (long limit : wrong) {
            for (int kind = -1; kind <= 3; kind++) {
                int k = kind;
                CHECK.refused("stepsUntil(" + k + ", " + limit + ")", ARGUMENT, StepEdgeTest::busy,
                    z -> z.stepsUntil(k, limit));
            }
        }
        CHECK.due("limit 0 with a gap of 0", new PolytopeDescent().stepsUntil(1, 0), 0);
        CHECK.due("the greatest limit", busy().stepsUntil(0, Long.MAX_VALUE), 0);
        PolytopeDescent x = Check.loaded("P4b9999" + "r+9+9+9+9-99".repeat(4));
        x.reset(15);
        CHECK.due("a limit beyond an int: the gap", x.stepsUntil(0, 10964160000L), 0);
        CHECK.due("a limit beyond an int: 1 less", x.stepsUntil(0, 10964159999L), 1);
    }

    /** "the smallest number of steps, 0 to 50, after which the gap is at most the limit; NONE if there is none". */
    private static void fiftySteps() {
        PolytopeDescent x = slow();
        long gap = x.gap();
        CHECK.due("at most the limit", x.stepsUntil(2, gap), 0);
        CHECK.isTrue("one less needs a step", x.stepsUntil(2, gap - 1) > 0);
        CHECK.due("the gap after fifty steps", x.stepsUntil(2, 52008), 50);
        CHECK.due("one less is not reached in fifty", x.stepsUntil(2, 52007), NONE);
        CHECK.due("no step is made", x.about(5), 0);
        x.run(2, 1);
        CHECK.due("from the first step on it is 49", x.stepsUntil(2, 52008), 49);
        CHECK.due("steps that move nothing reach nothing", segment(4, 1, 0).stepsUntil(0, 0), NONE);
        CHECK.due("a limit of 0 is reached", Check.loaded("P1s1r+4+01").stepsUntil(2, 0), 1);
    }

    /** "or if a step before is not possible". */
    private static void impossibleBefore() {
        PolytopeDescent x = Check.loaded("P2b99r+2+1+00");
        x.reset(1);
        x.transfer(0, 2, 20);
        x.transfer(0, 3, 30);
        long first = x.gap();
        CHECK.due("no step is needed", x.stepsUntil(1, first), 0);
        PolytopeDescent y = Check.loaded("P2b99r+2+1+00");
        y.reset(1);
        long last = y.gap();
        CHECK.isTrue("the gap becomes smaller", last < first);
        CHECK.due("two steps are enough", x.stepsUntil(1, last), 2);
        CHECK.due("the third is not possible", x.stepsUntil(1, last - 1), NONE);
        CHECK.due("the first is not possible", y.stepsUntil(1, last - 1), NONE);
        CHECK.due("other steps are", y.stepsUntil(2, last - 1), 1);
    }

    /** The counts of steps and drops go on as long as an object is used. */
    private static void longCounts() {
        PolytopeDescent x = segment(4, 1, 0);
        for (int n = 1; n <= 400; n++) {
            x.step(n % 2 * 2);
        }
        CHECK.due("400 steps that move nothing", x.about(5), 400);
        Supplier<PolytopeDescent> make = () -> Check.loaded("P1s1r+1+99");
        PolytopeDescent y = make.get();
        for (int n = 1; n <= 150; n++) {
            y.step(2);
            y.transfer(0, 0, 100);
        }
        CHECK.due("150 steps", y.about(5), 150);
        CHECK.due("150 drops", y.about(6), 150);
    }

    public static void main(String[] args) {
        towardsRange();
        awayRange();
        pairwiseRange();
        exactly();
        remainders();
        remaindersAway();
        awayShares();
        drops();
        nothingMoved();
        bestVertexKeepsItsPlace();
        awayFromOne();
        kinds();
        runLengths();
        runUntilNoGap();
        runWhilePossible();
        runWhileMoving();
        searches();
        flatSearches();
        noSuchVertex();
        previews();
        limits();
        fiftySteps();
        impossibleBefore();
        longCounts();
        CHECK.close();
    }
}
