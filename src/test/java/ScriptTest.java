/** Promises 30 to 33: scripts, simulations, save slots. */
public final class ScriptTest {
    private static final Check CHECK = new Check("ScriptTest");
    private static final int NONE = PolytopeDescent.NONE;

    private static void one(PolytopeDescent x, long group, boolean succeeds) {
        String before = Check.look(x);
        CHECK.due("command " + group, x.runScript(1, group), succeeds ? NONE : 0);
        CHECK.isTrue("command " + group + " works on a copy", before.equals(Check.look(x)));
    }

    private static void commands() {
        PolytopeDescent x = Check.loaded("P1l3059r+1+05");
        one(x, 1001, true);
        one(x, 1050, true);
        one(x, 1000, false);
        one(x, 1051, false);
        one(x, 1301, false);
        one(x, 1101, false);
        one(x, 1201, true);
        one(x, 2000, true);
        one(x, 2002, true);
        one(x, 2003, false);
        one(x, 2102, false);
        one(x, 3002, true);
        one(x, 3003, false);
        one(x, 3100, false);
        one(x, 3000, true);
        one(x, 4001, true);
        one(x, 4002, false);
        one(x, 4101, false);
        one(x, 5002, true);
        one(x, 5000, false);
        one(x, 5003, false);
        one(x, 5102, false);
        one(x, 6099, true);
        one(x, 6000, true);
        one(x, 6100, false);
        one(x, 7000, false);
        one(x, 7001, false);
        one(x, 8000, true);
        one(x, 8001, false);
        one(x, 8100, false);
        one(x, 9000, false);
        one(x, 0, false);
        one(x, 1, false);
        x.transfer(0, 1, 41);
        one(x, 1101, true);
        one(x, 6059, true);
        one(x, 6060, false);
        one(x, 6141, true);
        one(x, 6142, false);
        x.reset(1);
        one(x, 7000, true);
        one(x, 7001, false);
        one(x, 7100, false);
    }

    private static void sequences() {
        PolytopeDescent x = Check.loaded("P1l3059r+1+09");
        CHECK.due("step, then one atom, one drop, no gap", x.runScript(4, 1201_4001_8001_7000L), NONE);
        CHECK.due("the count starts anew with all units", x.runScript(3, 1201_2000_8000L), NONE);
        CHECK.due("the second fails", x.runScript(2, 4001_4002L), 1);
        CHECK.due("the first fails and ends it", x.runScript(2, 4002_4001L), 0);
        CHECK.due("the fourth fails", x.runScript(4, 4001_4001_4001_4002L), 3);
        CHECK.due("a missing group is 0000", x.runScript(2, 4001L), 0);
        CHECK.due("one unit is moved", x.runScript(4, 3002_4002_6101_6099L), NONE);
        CHECK.due("and no more than one", x.runScript(2, 3002_6102L), 1);
        CHECK.due("a moved unit is no drop", x.runScript(4, 2000_3002_1201_8001L), NONE);
        CHECK.due("away steps until one atom is left", x.runScript(2, 3002_1101L), NONE);
        CHECK.due("then they are not possible", x.runScript(2, 3002_1102L), 1);
        CHECK.due("16 digits", x.runScript(4, 9999_9999_9999_9999L), 0);
        CHECK.due("the state has no steps", x.about(5), 0);
        CHECK.dueState("a script is no action", x::undo);
    }

    private static void scriptArguments() {
        PolytopeDescent x = new PolytopeDescent();
        CHECK.dueArgument("runScript of 0 commands", () -> x.runScript(0, 0));
        CHECK.dueArgument("runScript of 5 commands", () -> x.runScript(5, 0));
        CHECK.dueArgument("runScript of -1 commands", () -> x.runScript(-1, 0));
        CHECK.dueArgument("a negative script", () -> x.runScript(1, -1));
        CHECK.dueArgument("the smallest script", () -> x.runScript(4, Long.MIN_VALUE));
        CHECK.dueArgument("five digits for one command", () -> x.runScript(1, 10000));
        CHECK.dueArgument("nine digits for two commands", () -> x.runScript(2, 100000000L));
        CHECK.dueArgument("thirteen digits for three commands", () -> x.runScript(3, 1000000000000L));
        CHECK.dueArgument("seventeen digits for four commands", () -> x.runScript(4, 10000000000000000L));
        CHECK.dueArgument("the greatest script", () -> x.runScript(4, Long.MAX_VALUE));
        CHECK.due("the first command fails", x.runScript(1, 9999), 0);
    }

    /** The rounds again, by the actions of the face. */
    private static long play(PolytopeDescent x, long seed, int m) {
        long y = seed;
        for (int i = 0; i < m; i++) {
            y = y * 6364136223846793005L + 1442695040888963407L;
            int r = (int) (y >>> 33);
            int kind = r % 4;
            if (kind == 3) {
                int atom = r / 4 % x.about(4);
                x.transfer(atom, r / 4096 % x.about(2), r / 128 % (x.atom(atom, 1) + 1));
            } else if (kind != 1 || x.about(4) > 1) {
                x.step(kind);
            }
        }
        return x.gap();
    }

    private static void simulating() {
        String text = "P3p259r+1-2+3+07r-3+4+1-08";
        PolytopeDescent x = Check.loaded(text);
        CHECK.dueArgument("simulate 0 rounds", () -> x.simulate(1, 0));
        CHECK.dueArgument("simulate 51 rounds", () -> x.simulate(1, 51));
        CHECK.dueArgument("simulate -1 rounds", () -> x.simulate(1, -1));
        String before = Check.look(x);
        long[] seeds = {0, 1, -1, 42, Long.MIN_VALUE, Long.MAX_VALUE, 123456789123456789L};
        for (long seed : seeds) {
            for (int m = 1; m <= 50; m += 7) {
                CHECK.due("simulate " + seed + ", " + m, x.simulate(seed, m), play(Check.loaded(text), seed, m));
            }
        }
        CHECK.isTrue("simulate changes nothing", before.equals(Check.look(x)));
        CHECK.dueState("simulate is no action", x::undo);
    }

    private static void saving() {
        PolytopeDescent x = Check.loaded("P2b35r+1-2+07r-3+4-08");
        CHECK.dueIndex("save -1", () -> x.save(-1));
        CHECK.dueIndex("save 2", () -> x.save(2));
        CHECK.dueIndex("restore -1", () -> x.restore(-1));
        CHECK.dueIndex("restore 2", () -> x.restore(2));
        CHECK.dueState("restore of an empty slot", () -> x.restore(0));
        x.step(0);
        x.transfer(0, 1, 3);
        String first = Check.look(x);
        CHECK.due("save answers the number of atoms", x.save(0), x.about(4));
        CHECK.dueState("the other slot is empty", () -> x.restore(1));
        CHECK.due("save is no action", x.undo(), 1);
        x.setRow(1, 2, 50);
        x.reset(3);
        String second = Check.look(x);
        CHECK.due("save in the other slot", x.save(1), 1);
        CHECK.due("restore answers the number of atoms then", x.restore(0), 2);
        CHECK.isTrue("restore brings rows, mixture and counts", first.equals(Check.look(x)));
        CHECK.dueState("restore forgets the states", x::undo);
        x.step(2);
        CHECK.due("restore of slot 1", x.restore(1), 1);
        CHECK.isTrue("slot 1", second.equals(Check.look(x)));
        x.reset(0);
        x.restore(0);
        CHECK.isTrue("the slot keeps its state", first.equals(Check.look(x)));
        x.reset(2);
        x.save(0);
        x.reset(1);
        x.restore(0);
        CHECK.due("a slot is written anew", x.atom(0, 0), 2);
    }

    private static void refusedRestoreKeepsMemory() {
        PolytopeDescent x = new PolytopeDescent();
        x.step(0);
        CHECK.dueState("restore of an empty slot", () -> x.restore(0));
        CHECK.dueIndex("restore of no slot", () -> x.restore(2));
        CHECK.due("the state is still remembered", x.undo(), 0);
    }

    public static void main(String[] args) {
        commands();
        sequences();
        scriptArguments();
        simulating();
        saving();
        refusedRestoreKeepsMemory();
        CHECK.close();
    }
}
