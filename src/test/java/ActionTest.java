/** Promises 6 to 16: what there is, and the actions with undo. */
public final class ActionTest {
    private static final Check CHECK = new Check("ActionTest");

    private static void mixture(String what, PolytopeDescent x, String due) {
        String got = Check.mixture(x);
        CHECK.isTrue(what + ": the mixture is " + got + ", due is " + due, got.equals(due));
    }

    private static void whatThereIs() {
        PolytopeDescent x = Check.loaded("P2c3r+1-2+07r-3+4-08");
        x.transfer(0, 3, 25);
        CHECK.dueArgument("about -1", () -> x.about(-1));
        CHECK.dueArgument("about 7", () -> x.about(7));
        int[] due = {2, 2, 4, 2, 2, 0, 0};
        for (int what = 0; what < due.length; what++) {
            CHECK.due("about " + what, x.about(what), due[what]);
        }
        CHECK.due("vertex(0, 0)", x.vertex(0, 0), -3);
        CHECK.due("vertex(1, 1)", x.vertex(1, 1), -3);
        CHECK.dueIndex("vertex(-1, 0)", () -> x.vertex(-1, 0));
        CHECK.dueIndex("vertex(4, 0)", () -> x.vertex(4, 0));
        CHECK.dueIndex("vertex(0, -1)", () -> x.vertex(0, -1));
        CHECK.dueIndex("vertex(0, 2)", () -> x.vertex(0, 2));
        CHECK.due("row(1, 1)", x.row(1, 1), 4);
        CHECK.due("row(1, 2)", x.row(1, 2), -8);
        CHECK.dueIndex("row(-1, 0)", () -> x.row(-1, 0));
        CHECK.dueIndex("row(2, 0)", () -> x.row(2, 0));
        CHECK.dueIndex("row(0, -1)", () -> x.row(0, -1));
        CHECK.dueIndex("row(0, 3)", () -> x.row(0, 3));
        CHECK.due("atom(0, 1)", x.atom(0, 1), 75);
        CHECK.due("atom(1, 0)", x.atom(1, 0), 3);
        CHECK.dueIndex("atom(-1, 0)", () -> x.atom(-1, 0));
        CHECK.dueIndex("atom(2, 0)", () -> x.atom(2, 0));
        CHECK.dueIndex("atom(2, 5): the index counts first", () -> x.atom(2, 5));
        CHECK.dueArgument("atom(0, 2)", () -> x.atom(0, 2));
        CHECK.dueArgument("atom(0, -1)", () -> x.atom(0, -1));
    }

    private static void finding() {
        PolytopeDescent x = Check.loaded("P2c3r+1-2+07");
        CHECK.due("find(-3, 0)", x.find(-3, 0, 0, 0), 0);
        CHECK.due("find(0, 3)", x.find(0, 3, 0, 0), 2);
        CHECK.due("find(3, 0)", x.find(3, 0, 0, 0), 3);
        CHECK.due("find(0, 0)", x.find(0, 0, 0, 0), PolytopeDescent.NONE);
        CHECK.due("find with a coordinate too many", x.find(3, 0, 0, 1), PolytopeDescent.NONE);
        CHECK.due("find with another too many", x.find(3, 0, -1, 0), PolytopeDescent.NONE);
        CHECK.due("find of a large number", x.find(Integer.MAX_VALUE, 0, 0, 0), PolytopeDescent.NONE);
    }

    private static void towards() {
        PolytopeDescent half = Check.loaded("P1s1r+8+01");
        CHECK.due("12 and 13 are equally good: towards", half.step(0), 12);
        mixture("towards", half, "0:88 1:12");
        PolytopeDescent x = Check.loaded("P1l40129r+1+05");
        x.transfer(0, 1, 33);
        x.transfer(0, 2, 34);
        CHECK.due("towards with rounding", x.step(0), 50);
        mixture("equal remainders: the earlier atom", x, "0:17 1:16 2:17 3:50");
        CHECK.due("steps", x.about(5), 1);
        CHECK.due("drops", x.about(6), 0);
        PolytopeDescent all = Check.loaded("P1l3059r+1+09");
        all.transfer(0, 1, 50);
        CHECK.due("towards takes all", all.step(0), 100);
        mixture("towards takes all", all, "2:100");
        CHECK.due("both atoms drop", all.about(6), 2);
        CHECK.due("a step that moves nothing", all.step(0), 0);
        CHECK.due("counts as a step", all.about(5), 2);
        mixture("a step that moves nothing", all, "2:100");
    }

    /** An atom that is rounded down to nothing, and is the best vertex, keeps its place. */
    private static void towardsKeepsPlace() {
        PolytopeDescent x = Check.loaded("P1l209r+1+08");
        x.transfer(0, 1, 100);
        x.transfer(0, 0, 99);
        mixture("before", x, "1:1 0:99");
        CHECK.due("towards an atom with one unit", x.step(0), 89);
        mixture("the atom keeps its place", x, "1:89 0:11");
        CHECK.due("no drop", x.about(6), 0);
    }

    private static void away() {
        PolytopeDescent x = Check.loaded("P1l3059r+1+05");
        CHECK.dueState("away from the only atom", () -> x.step(1));
        CHECK.dueState("and nothing is remembered", x::undo);
        x.transfer(0, 1, 31);
        x.transfer(0, 2, 29);
        CHECK.due("away", x.step(1), 12);
        mixture("away with rounding", x, "0:28 1:37 2:35");
        x.undo();
        x.setRow(0, 1, 9);
        CHECK.due("away as far as it goes", x.step(1), 40);
        mixture("away with a drop", x, "1:52 2:48");
        CHECK.due("the drop", x.about(6), 1);
    }

    private static void pairwise() {
        PolytopeDescent half = Check.loaded("P1s1r+8+01");
        CHECK.due("12 and 13 are equally good: pairwise", half.step(2), 12);
        mixture("pairwise", half, "0:88 1:12");
        PolytopeDescent x = Check.loaded("P1l3059r+1+09");
        x.transfer(0, 1, 30);
        CHECK.due("pairwise moves all", x.step(2), 70);
        mixture("the new atom comes last", x, "1:30 2:70");
        CHECK.due("a drop", x.about(6), 1);
        CHECK.due("pairwise to an atom", x.step(2), 30);
        mixture("pairwise to an atom", x, "2:100");
        CHECK.due("two drops", x.about(6), 2);
        CHECK.due("from a vertex to itself", x.step(2), 0);
        mixture("from a vertex to itself", x, "2:100");
        CHECK.due("three steps", x.about(5), 3);
    }

    private static void stepArguments() {
        PolytopeDescent x = new PolytopeDescent();
        CHECK.dueArgument("step -1", () -> x.step(-1));
        CHECK.dueArgument("step 3", () -> x.step(3));
        CHECK.dueState("step 1", () -> x.step(1));
        CHECK.dueState("refused steps are no actions", x::undo);
    }

    private static void running() {
        PolytopeDescent x = Check.loaded("P2b99r+1+0+04r+0+1+07");
        CHECK.dueArgument("run -1", () -> x.run(-1, 1));
        CHECK.dueArgument("run 3", () -> x.run(3, 1));
        CHECK.dueArgument("run of 0 steps", () -> x.run(0, 0));
        CHECK.dueArgument("run of 51 steps", () -> x.run(0, 51));
        CHECK.due("run away from the only atom", x.run(1, 50), 0);
        CHECK.due("a run of no step is an action", x.undo(), 0);
        CHECK.due("run of 2", x.run(2, 2), 2);
        CHECK.due("steps of the run", x.about(5), 2);
        CHECK.due("a run is one action", x.undo(), 0);
        CHECK.due("undo takes all of the run back", x.about(5), 0);
        int made = x.run(2, 50);
        CHECK.due("a step that moves nothing ends the run", x.preview(2, 0), 0);
        CHECK.isTrue("the run ends before 50", made > 2 && made < 50);
        PolytopeDescent still = Check.loaded("P1s5r+1+00");
        CHECK.due("no gap, no step", still.run(0, 50), 0);
        CHECK.due("no gap, no step: count", still.about(5), 0);
        PolytopeDescent half = Check.loaded("P1s1r+8+01");
        CHECK.due("t 12, then t 0", half.run(2, 50), 2);
        CHECK.isTrue("with a gap left", half.gap() > 0);
        CHECK.due("a run starts with a step that moves nothing", half.run(2, 50), 1);
    }

    private static void transferring() {
        PolytopeDescent x = Check.loaded("P2b35r+1-2+07");
        CHECK.due("transfer of 40", x.transfer(0, 2, 40), 2);
        CHECK.due("transfer of nothing makes no atom", x.transfer(0, 1, 0), 2);
        CHECK.due("transfer to itself", x.transfer(0, 0, 60), 2);
        mixture("transfer", x, "0:60 2:40");
        CHECK.due("transfer of all units", x.transfer(0, 3, 60), 2);
        mixture("the atom is gone, the new one last", x, "2:40 3:60");
        CHECK.due("it is no drop", x.about(6), 0);
        CHECK.due("and no step", x.about(5), 0);
        CHECK.due("it comes again", x.transfer(0, 0, 10), 3);
        mixture("a vertex that comes again comes last", x, "2:30 3:60 0:10");
        CHECK.due("all to one", x.transfer(0, 3, 30), 2);
        CHECK.dueIndex("transfer from atom 2", () -> x.transfer(2, 0, 0));
        CHECK.dueIndex("transfer from atom -1", () -> x.transfer(-1, 0, 0));
        CHECK.dueIndex("transfer to vertex 4", () -> x.transfer(0, 4, 0));
        CHECK.dueIndex("transfer to vertex -1", () -> x.transfer(0, -1, 0));
        CHECK.dueIndex("the index counts first", () -> x.transfer(0, 4, -1));
        CHECK.dueArgument("transfer of -1", () -> x.transfer(0, 0, -1));
        CHECK.dueArgument("transfer of too many", () -> x.transfer(0, 0, 91));
        CHECK.due("six actions, one taken back", x.undo(), 5);
    }

    private static void resetting() {
        PolytopeDescent x = Check.loaded("P2b35r+1-2+07");
        x.step(0);
        x.transfer(0, 1, 1);
        int atoms = x.about(4);
        CHECK.dueIndex("reset -1", () -> x.reset(-1));
        CHECK.dueIndex("reset 4", () -> x.reset(4));
        CHECK.due("reset answers the atoms before", x.reset(3), atoms);
        mixture("reset", x, "3:100");
        CHECK.due("reset: steps", x.about(5), 0);
        CHECK.due("reset: drops", x.about(6), 0);
        x.undo();
        CHECK.due("undo brings the count back", x.about(5), 1);
    }

    private static void settingRows() {
        PolytopeDescent x = Check.loaded("P2b35r+1-2+07r+3+4-08");
        CHECK.due("setRow of a factor", x.setRow(0, 1, 9), -2);
        CHECK.due("the factor then", x.row(0, 1), 9);
        CHECK.due("setRow of a target", x.setRow(1, 2, -99), -8);
        CHECK.due("the target then", x.row(1, 2), -99);
        CHECK.due("setRow of the smallest factor", x.setRow(1, 0, -9), 3);
        CHECK.due("setRow of the largest target", x.setRow(1, 2, 99), -99);
        CHECK.dueIndex("setRow of row 2", () -> x.setRow(2, 0, 0));
        CHECK.dueIndex("setRow of row -1", () -> x.setRow(-1, 0, 0));
        CHECK.dueIndex("setRow of column 3", () -> x.setRow(0, 3, 0));
        CHECK.dueIndex("setRow of column -1", () -> x.setRow(0, -1, 0));
        CHECK.dueIndex("the index counts first", () -> x.setRow(2, 0, 100));
        CHECK.dueArgument("a factor of 10", () -> x.setRow(0, 0, 10));
        CHECK.dueArgument("a factor of -10", () -> x.setRow(0, 0, -10));
        CHECK.dueArgument("a target of 100", () -> x.setRow(0, 2, 100));
        CHECK.dueArgument("a target of -100", () -> x.setRow(0, 2, -100));
        CHECK.due("undo of setRow", x.undo(), 3);
        CHECK.due("the target before", x.row(1, 2), -99);
    }

    private static void undoing() {
        PolytopeDescent x = Check.loaded("P2b99r+1+0+04r+0+1+07");
        String[] seen = new String[20];
        for (int n = 0; n < 20; n++) {
            seen[n] = Check.look(x);
            x.transfer(0, (n + 1) % 4, 1);
        }
        for (int n = 19; n >= 6; n--) {
            CHECK.due("states left", x.undo(), n - 6);
            CHECK.isTrue("undo brings back state " + n, seen[n].equals(Check.look(x)));
        }
        CHECK.dueState("the fifteenth undo", x::undo);
        CHECK.isTrue("a refused undo changes nothing", seen[6].equals(Check.look(x)));
        x.transfer(0, 0, 0);
        CHECK.due("an action that changes nothing is one", x.undo(), 0);
        x.step(0);
        x.undo();
        x.reset(0);
        CHECK.due("undo itself is no action", x.undo(), 0);
    }

    public static void main(String[] args) {
        whatThereIs();
        finding();
        towards();
        towardsKeepsPlace();
        away();
        pairwise();
        stepArguments();
        running();
        transferring();
        resetting();
        settingRows();
        undoing();
        CHECK.close();
    }
}
