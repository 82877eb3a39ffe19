import java.util.function.Supplier;
import java.util.function.ToLongFunction;

/** The boundary cases of ACTIONS AND UNDO and of the promises 13 to 16, 32 and 33; each method holds one sentence. */
public final class UndoEdgeTest {
    private static final Check CHECK = new Check("UndoEdgeTest");
    private static final int[] FAR = {Integer.MIN_VALUE, -1 << 24, -256, -2, -1, 100, 256, 1 << 24, Integer.MAX_VALUE};
    private static final Class<IndexOutOfBoundsException> INDEX = IndexOutOfBoundsException.class;
    private static final Class<IllegalArgumentException> ARGUMENT = IllegalArgumentException.class;
    private static final Class<IllegalStateException> STATE = IllegalStateException.class;

    /** Vertices 00 05 30 35; the mixture is 0:60 2:40, and slot 1 holds what was before the last two actions. */
    private static PolytopeDescent busy() {
        PolytopeDescent x = Check.loaded("P2b35r+1-2+07r-3+4-08");
        x.save(1);
        x.setRow(0, 0, 2);
        x.transfer(0, 2, 40);
        return x;
    }

    private static PolytopeDescent remembering(int actions) {
        PolytopeDescent x = Check.loaded("P2b35r+1-2+07r-3+4-08");
        x.save(0);
        for (int n = 0; n < actions; n++) {
            x.transfer(0, 3, 1);
        }
        return x;
    }

    private static void mixture(String what, PolytopeDescent x, String due) {
        CHECK.same(what, Check.mixture(x), due);
    }

    /** "if there is no such atom or vertex". */
    private static void transferIndexes() {
        CHECK.due("the last atom", busy().transfer(1, 0, 1), 2);
        CHECK.due("the last vertex", busy().transfer(0, 3, 1), 3);
        CHECK.refused("transfer from atom 2", INDEX, UndoEdgeTest::busy, z -> z.transfer(2, 0, 0));
        CHECK.refused("transfer to vertex 4", INDEX, UndoEdgeTest::busy, z -> z.transfer(0, 4, 0));
        for (int i : FAR) {
            CHECK.refused("transfer from atom " + i, INDEX, UndoEdgeTest::busy, z -> z.transfer(i, 0, 0));
            CHECK.refused("transfer to vertex " + i, INDEX, UndoEdgeTest::busy, z -> z.transfer(0, i, 0));
        }
    }

    /** "units: 0 to the number of its units", "if units is out of range". */
    private static void transferUnits() {
        PolytopeDescent x = busy();
        CHECK.due("no unit makes no atom", x.transfer(1, 3, 0), 2);
        mixture("no unit", x, "0:60 2:40");
        CHECK.due("all but one", x.transfer(1, 3, 39), 3);
        mixture("all but one", x, "0:60 2:1 3:39");
        CHECK.due("the last one", x.transfer(1, 3, 1), 2);
        mixture("the last one", x, "0:60 3:40");
        CHECK.due("all at once", x.transfer(0, 3, 60), 1);
        mixture("all at once", x, "3:100");
        CHECK.due("all 100", x.transfer(0, 1, 100), 1);
        mixture("all 100", x, "1:100");
        int[] wrong = {Integer.MIN_VALUE, -1, 41, 60, 100, 101, 256, Integer.MAX_VALUE};
        for (int units : wrong) {
            CHECK.refused("transfer of " + units + " of 40", ARGUMENT, UndoEdgeTest::busy, z -> z.transfer(1, 3, units));
            CHECK.refused("to itself of " + units + " of 40", ARGUMENT, UndoEdgeTest::busy, z -> z.transfer(1, 2, units));
        }
    }

    /** "If several exceptions apply to a call, the one that its description names first is thrown." */
    private static void transferFirstNamed() {
        CHECK.refused("no atom, -1 units", INDEX, UndoEdgeTest::busy, z -> z.transfer(2, 0, -1));
        CHECK.refused("no vertex, 101 units", INDEX, UndoEdgeTest::busy, z -> z.transfer(0, 4, 101));
        CHECK.refused("nothing is right", INDEX, UndoEdgeTest::busy, z -> z.transfer(-1, -1, -1));
    }

    /** "It is no step, and an atom that is removed is no drop. If v is the vertex of the atom itself, nothing changes." */
    private static void transferIsNoStep() {
        PolytopeDescent x = busy();
        x.transfer(0, 2, 60);
        CHECK.due("no step", x.about(5), 0);
        CHECK.due("no drop", x.about(6), 0);
        PolytopeDescent y = busy();
        CHECK.due("all to itself", y.transfer(0, 0, 60), 2);
        mixture("the place is kept, too", y, "0:60 2:40");
        CHECK.due("one to itself", y.transfer(1, 2, 1), 2);
        CHECK.due("none to itself", y.transfer(1, 2, 0), 2);
        mixture("nothing changes", y, "0:60 2:40");
        CHECK.due("but they are actions", y.undo(), 4);
    }

    /** "Gives all units to one vertex. The counts become 0.", "if there is no such vertex". */
    private static void resetting() {
        PolytopeDescent x = busy();
        x.step(2);
        CHECK.due("a step", x.about(5), 1);
        CHECK.due("reset to the last vertex", x.reset(3), 2);
        CHECK.same("the rows stay", Check.state(x), "3:100 steps 0 drops 0 rows 2 -2 7 -3 4 -8");
        CHECK.due("reset to the first vertex", x.reset(0), 1);
        CHECK.due("reset to itself", x.reset(0), 1);
        mixture("reset", x, "0:100");
        CHECK.due("reset is an action each time", x.undo(), 5);
        CHECK.refused("reset(4)", INDEX, UndoEdgeTest::busy, z -> z.reset(4));
        for (int v : FAR) {
            CHECK.refused("reset(" + v + ")", INDEX, UndoEdgeTest::busy, z -> z.reset(v));
        }
        Supplier<PolytopeDescent> single = () -> Check.loaded("P1l15r+1+00");
        CHECK.due("the only vertex", single.get().reset(0), 1);
        CHECK.refused("the second of one", INDEX, single, z -> z.reset(1));
        PolytopeDescent many = Check.loaded("P4p1234r+1+1+1+1+00");
        CHECK.due("the last of 24", many.reset(23), 1);
        CHECK.dueIndex("the 25th", () -> many.reset(24));
    }

    /** "new number: -9 to 9 for a factor, -99 to 99 for the target". */
    private static void rowNumbers() {
        PolytopeDescent x = busy();
        int[] factors = {-9, 9, 0, 9};
        int before = -2;
        for (int v : factors) {
            CHECK.due("a factor of " + v, x.setRow(0, 1, v), before);
            CHECK.due("it is there", x.row(0, 1), v);
            before = v;
        }
        int[] targets = {-99, 99, 0, 10, -10};
        before = -8;
        for (int v : targets) {
            CHECK.due("a target of " + v, x.setRow(1, 2, v), before);
            CHECK.due("it is there", x.row(1, 2), v);
            before = v;
        }
        int[] wrong = {Integer.MIN_VALUE, -256, -100, 100, 256, Integer.MAX_VALUE};
        for (int v : wrong) {
            CHECK.refused("a target of " + v, ARGUMENT, UndoEdgeTest::busy, z -> z.setRow(1, 2, v));
            CHECK.refused("a factor of " + v, ARGUMENT, UndoEdgeTest::busy, z -> z.setRow(1, 1, v));
        }
        int[] onlyTargets = {-99, -10, 10, 99};
        for (int v : onlyTargets) {
            CHECK.refused("a factor of " + v, ARGUMENT, UndoEdgeTest::busy, z -> z.setRow(1, 0, v));
            CHECK.refused("the last factor as " + v, ARGUMENT, UndoEdgeTest::busy, z -> z.setRow(1, 1, v));
        }
    }

    /** "coordinate, or d for the target", "if there is no such row, or j is out of range": for each d and number of rows. */
    private static void rowPlaces() {
        for (int d = 1; d <= 4; d++) {
            String text = "P" + d + "s1" + ("r" + "+1".repeat(d) + "+00").repeat(d);
            Supplier<PolytopeDescent> make = () -> Check.loaded(text);
            int last = d;
            PolytopeDescent x = make.get();
            CHECK.due("the target of the last row", x.setRow(d - 1, d, 99), 0);
            CHECK.due("its last factor", x.setRow(d - 1, d - 1, -9), 1);
            CHECK.due("the target is there", x.row(d - 1, d), 99);
            CHECK.due("the factor is there", x.row(d - 1, d - 1), -9);
            CHECK.due("the residual knows it", x.residual(d - 1), -9900);
            CHECK.refused("a row too many, d = " + d, INDEX, make, z -> z.setRow(last, 0, 0));
            CHECK.refused("a column too many, d = " + d, INDEX, make, z -> z.setRow(0, last + 1, 0));
        }
        for (int i : FAR) {
            CHECK.refused("setRow of row " + i, INDEX, UndoEdgeTest::busy, z -> z.setRow(i, 0, 0));
            CHECK.refused("setRow of column " + i, INDEX, UndoEdgeTest::busy, z -> z.setRow(0, i, 0));
            CHECK.refused("no such row, number too large", INDEX, UndoEdgeTest::busy, z -> z.setRow(i, 0, 100));
            CHECK.refused("no such column, number too small", INDEX, UndoEdgeTest::busy, z -> z.setRow(0, i, -100));
        }
    }

    private static void oneAction(String name, ToLongFunction<PolytopeDescent> body) {
        PolytopeDescent x = busy();
        String before = Check.state(x);
        body.applyAsLong(x);
        CHECK.due(name + " is one action", x.undo(), 2);
        CHECK.same(name + " is taken back", Check.state(x), before);
    }

    /** "Each call of one of them that does not throw an exception is an action, also if nothing becomes different". */
    private static void everyAction() {
        oneAction("step(0)", x -> x.step(0));
        oneAction("step(1)", x -> x.step(1));
        oneAction("step(2)", x -> x.step(2));
        oneAction("run(0, 50)", x -> x.run(0, 50));
        oneAction("run(2, 1)", x -> x.run(2, 1));
        oneAction("transfer", x -> x.transfer(0, 1, 5));
        oneAction("transfer of nothing", x -> x.transfer(0, 1, 0));
        oneAction("transfer to itself", x -> x.transfer(0, 0, 60));
        oneAction("reset", x -> x.reset(1));
        oneAction("setRow", x -> x.setRow(1, 2, 5));
        oneAction("setRow to the same", x -> x.setRow(1, 2, -8));
        PolytopeDescent still = new PolytopeDescent();
        CHECK.due("a run of no step", still.run(0, 50), 0);
        CHECK.due("is an action", still.undo(), 0);
        CHECK.due("a step of no unit", still.step(0), 0);
        CHECK.due("is an action", still.undo(), 0);
        CHECK.due("a reset to what is there", still.reset(0), 1);
        CHECK.due("is an action", still.undo(), 0);
    }

    private static void noAction(String name, ToLongFunction<PolytopeDescent> body) {
        PolytopeDescent x = busy();
        body.applyAsLong(x);
        CHECK.due(name + " is no action", x.undo(), 1);
        CHECK.due(name + " is no action, so the transfer is taken back", x.about(4), 1);
    }

    /** "undo, load and restore are not actions", nor is any call outside the section "actions". */
    private static void noActions() {
        noAction("save", x -> x.save(0));
        noAction("append", x -> x.append('r'));
        noAction("clearText", x -> x.clearText());
        noAction("errorPosition", x -> x.errorPosition());
        noAction("find", x -> x.find(0, 0, 0, 0));
        noAction("about", x -> x.about(5));
        noAction("preview", x -> x.preview(2, 1));
        noAction("stepsUntil", x -> x.stepsUntil(2, 0));
        noAction("runScript", x -> x.runScript(1, 2003));
        noAction("simulate", x -> x.simulate(5, 5));
        PolytopeDescent x = busy();
        x.load();
        CHECK.dueState("load is no action and forgets", x::undo);
        PolytopeDescent y = busy();
        y.restore(1);
        CHECK.dueState("restore is no action and forgets", y::undo);
        PolytopeDescent z = busy();
        z.undo();
        z.undo();
        CHECK.dueState("undo is no action: it cannot be taken back", z::undo);
    }

    /** "At most 14 states are remembered; when one more is remembered, the oldest one is forgotten." */
    private static void fourteenStates() {
        for (int actions = 0; actions <= 31; actions++) {
            PolytopeDescent x = remembering(actions);
            int remembered = Math.min(actions, 14);
            for (int n = 1; n <= remembered; n++) {
                CHECK.due("undo " + n + " of " + actions, x.undo(), remembered - n);
                CHECK.due("units at vertex 0", x.atom(0, 1), 100 - actions + n);
            }
            CHECK.dueState("undo after " + actions + " actions and as many undos as there are", x::undo);
            CHECK.due("units at vertex 0 in the end", x.atom(0, 1), 100 - actions + remembered);
        }
    }

    /** Undos make room again: the wrap-around of the memory at every place, with fewer and more than 14 states. */
    private static void backAndForth() {
        for (int turn = 0; turn < 20; turn++) {
            PolytopeDescent x = remembering(turn);
            int remembered = Math.min(turn, 14);
            int back = remembered / 2;
            for (int n = 1; n <= back; n++) {
                CHECK.due("back", x.undo(), remembered - n);
            }
            int units = x.atom(0, 1);
            for (int n = 0; n < 10; n++) {
                x.transfer(0, 2, 1);
            }
            int then = Math.min(remembered - back + 10, 14);
            for (int n = 1; n <= then; n++) {
                CHECK.due("back again", x.undo(), then - n);
                int due = n <= 10 ? units - 10 + n : units + n - 10;
                CHECK.due("units at vertex 0", x.atom(0, 1), due);
            }
            CHECK.dueState("no more", x::undo);
        }
    }

    /** "if none is remembered": a refused undo changes nothing. */
    private static void nothingToUndo() {
        CHECK.refused("undo of a new object", STATE, PolytopeDescent::new, z -> z.undo());
        CHECK.refused("undo after load", STATE, () -> remembering(0), z -> z.undo());
        Supplier<PolytopeDescent> restored = () -> {
            PolytopeDescent x = busy();
            x.restore(1);
            return x;
        };
        CHECK.refused("undo after restore", STATE, restored, z -> z.undo());
        Supplier<PolytopeDescent> usedUp = () -> {
            PolytopeDescent x = remembering(20);
            for (int n = 0; n < 14; n++) {
                x.undo();
            }
            return x;
        };
        CHECK.refused("undo of the fifteenth", STATE, usedUp, z -> z.undo());
    }

    /** "A call that throws an exception changes nothing": it does not push the oldest of 14 states out. */
    private static void refusedCallsRememberNothing() {
        Supplier<PolytopeDescent> full = () -> remembering(14);
        CHECK.refused("step(3)", ARGUMENT, full, z -> z.step(3));
        CHECK.refused("run(0, 51)", ARGUMENT, full, z -> z.run(0, 51));
        CHECK.refused("transfer", ARGUMENT, full, z -> z.transfer(0, 1, 87));
        CHECK.refused("transfer", INDEX, full, z -> z.transfer(2, 1, 0));
        CHECK.refused("reset", INDEX, full, z -> z.reset(4));
        CHECK.refused("setRow", ARGUMENT, full, z -> z.setRow(0, 2, 100));
        CHECK.refused("setRow", INDEX, full, z -> z.setRow(0, 3, 0));
        CHECK.refused("restore of an empty slot", STATE, full, z -> z.restore(1));
        CHECK.refused("restore of no slot", INDEX, full, z -> z.restore(2));
        CHECK.refused("save in no slot", INDEX, full, z -> z.save(2));
        Supplier<PolytopeDescent> one = () -> {
            PolytopeDescent x = remembering(13);
            x.reset(2);
            return x;
        };
        CHECK.refused("step(1) of one atom", STATE, one, z -> z.step(1));
        Supplier<PolytopeDescent> spoiled = () -> {
            PolytopeDescent x = remembering(14);
            x.append('r');
            return x;
        };
        CHECK.refused("load of a spoiled text", STATE, spoiled, PolytopeDescent::load);
    }

    /** "The polytope, the text and the save slots are not part of the state": undo leaves them. */
    private static void notPartOfTheState() {
        PolytopeDescent x = Check.loaded("P1s5r+1+03");
        x.transfer(0, 1, 10);
        x.save(0);
        x.append('r');
        x.undo();
        CHECK.due("undo leaves the text", x.clearText(), 11);
        CHECK.due("undo leaves the slot", x.restore(0), 2);
        mixture("what the slot holds", x, "0:90 1:10");
        Check.type(x, "P1s5r+1+0");
        x.reset(1);
        x.restore(0);
        CHECK.due("restore leaves the text", x.clearText(), 9);
        CHECK.same("restore leaves the polytope", Check.vertices(x), "0 5");
    }

    /** "the state, which consists of the rows, the mixture and the counts of steps and drops". */
    private static void theWholeState() {
        PolytopeDescent x = Check.loaded("P1l3059r+1+09");
        x.transfer(0, 1, 30);
        x.step(2);
        String first = Check.state(x);
        CHECK.same("first", first, "1:30 2:70 steps 1 drops 1 rows 1 9");
        x.save(0);
        x.setRow(0, 1, 0);
        x.step(2);
        CHECK.same("second", Check.state(x), "1:30 0:70 steps 2 drops 2 rows 1 0");
        x.undo();
        x.undo();
        CHECK.same("undo", Check.state(x), first);
        x.reset(0);
        x.setRow(0, 0, -4);
        CHECK.due("restore", x.restore(0), 2);
        CHECK.same("restore", Check.state(x), first);
    }

    /** "slot: 0 or 1", "if there is no such slot". */
    private static void slots() {
        CHECK.due("save(0)", busy().save(0), 2);
        CHECK.due("save(1)", busy().save(1), 2);
        CHECK.due("restore(1)", busy().restore(1), 1);
        CHECK.refused("save(2)", INDEX, UndoEdgeTest::busy, z -> z.save(2));
        CHECK.refused("restore(2)", INDEX, UndoEdgeTest::busy, z -> z.restore(2));
        for (int slot : FAR) {
            CHECK.refused("save(" + slot + ")", INDEX, UndoEdgeTest::busy, z -> z.save(slot));
            CHECK.refused("restore(" + slot + ")", INDEX, UndoEdgeTest::busy, z -> z.restore(slot));
            CHECK.refused("restore(" + slot + ") of a new object", INDEX, PolytopeDescent::new, z -> z.restore(slot));
        }
    }

    /** "if nothing has been saved in the slot since the last load". */
    private static void emptySlots() {
        CHECK.refused("restore(0) of a new object", STATE, PolytopeDescent::new, z -> z.restore(0));
        CHECK.refused("restore(1) of a new object", STATE, PolytopeDescent::new, z -> z.restore(1));
        CHECK.refused("restore(0), the other slot is full", STATE, UndoEdgeTest::busy, z -> z.restore(0));
        Supplier<PolytopeDescent> loadedAgain = () -> {
            PolytopeDescent x = busy();
            x.save(0);
            x.load();
            x.step(2);
            return x;
        };
        CHECK.refused("restore(0) after load", STATE, loadedAgain, z -> z.restore(0));
        CHECK.refused("restore(1) after load", STATE, loadedAgain, z -> z.restore(1));
        PolytopeDescent y = loadedAgain.get();
        y.save(1);
        CHECK.due("saved since the load", y.restore(1), y.about(4));
        CHECK.dueState("the other is still empty", () -> y.restore(0));
        PolytopeDescent z = new PolytopeDescent();
        z.save(0);
        CHECK.due("a new object can be saved without a load", z.restore(0), 1);
    }

    /** "Replaces the state by the one in a slot, and forgets all remembered states. The slot keeps its state." */
    private static void slotsKeep() {
        PolytopeDescent x = busy();
        String at = Check.state(x);
        x.save(0);
        for (int n = 0; n < 3; n++) {
            x.step(2);
            x.setRow(0, 0, -5 + n);
            x.reset(n);
            CHECK.due("restore " + n, x.restore(0), 2);
            CHECK.same("the slot keeps its state", Check.state(x), at);
            CHECK.dueState("nothing is remembered", x::undo);
        }
        x.transfer(0, 1, 1);
        CHECK.due("an action after restore", x.undo(), 0);
        CHECK.same("is taken back to the restored state", Check.state(x), at);
        CHECK.due("the other slot", x.restore(1), 1);
        CHECK.same("the other slot", Check.state(x), "0:100 steps 0 drops 0 rows 1 -2 7 -3 4 -8");
        x.reset(3);
        x.save(1);
        x.restore(0);
        CHECK.due("saved anew", x.restore(1), 1);
        mixture("saved anew", x, "3:100");
    }

    /** save "Stores the present state": it leaves the state and what is remembered. */
    private static void savingLeavesAll() {
        PolytopeDescent x = remembering(20);
        CHECK.due("save", x.save(1), 2);
        CHECK.due("save again", x.save(1), 2);
        for (int n = 13; n >= 0; n--) {
            CHECK.due("undo after save", x.undo(), n);
        }
        mixture("after all undos", x, "0:94 3:6");
        CHECK.due("the slot is as it was", x.restore(1), 2);
        mixture("the slot is as it was", x, "0:80 3:20");
    }

    public static void main(String[] args) {
        transferIndexes();
        transferUnits();
        transferFirstNamed();
        transferIsNoStep();
        resetting();
        rowNumbers();
        rowPlaces();
        everyAction();
        noActions();
        fourteenStates();
        backAndForth();
        nothingToUndo();
        refusedCallsRememberNothing();
        notPartOfTheState();
        theWholeState();
        slots();
        emptySlots();
        slotsKeep();
        savingLeavesAll();
        CHECK.close();
    }
}
