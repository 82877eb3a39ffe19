import java.math.BigInteger;
import java.util.function.Supplier;

/** The boundary cases of the promises 30 and 31, scripts and simulations; each method holds one sentence. */
public final class ScriptEdgeTest {
    private static final Check CHECK = new Check("ScriptEdgeTest");
    private static final int NONE = PolytopeDescent.NONE;
    private static final Class<IllegalArgumentException> ARGUMENT = IllegalArgumentException.class;

    /** Vertices 0 5 9; one row. */
    private static PolytopeDescent line() {
        return Check.loaded("P1l3059r+1+05");
    }

    private static PolytopeDescent busy() {
        PolytopeDescent x = Check.loaded("P2b35r+1-2+07r-3+4-08");
        x.save(1);
        x.setRow(0, 0, 2);
        x.transfer(0, 2, 40);
        return x;
    }

    private static PolytopeDescent manyAtoms() {
        PolytopeDescent x = Check.loaded("P4p1234r+1+2+3+4+25");
        for (int v = 1; v <= 23; v++) {
            x.transfer(0, v, 1);
        }
        return x;
    }

    private static void good(PolytopeDescent x, long group) {
        CHECK.due("the command " + group + " at " + Check.mixture(x), x.runScript(1, group), NONE);
    }

    private static void bad(PolytopeDescent x, long group) {
        CHECK.due("the command " + group + " at " + Check.mixture(x), x.runScript(1, group), 0);
    }

    /** "number of commands, 1 to 4", "if n is out of range". */
    private static void numbersOfCommands() {
        int[] wrong = {Integer.MIN_VALUE, -1, 0, 5, 6, 256 + 1, Integer.MAX_VALUE};
        for (int n : wrong) {
            CHECK.refused("runScript(" + n + ", 0)", ARGUMENT, ScriptEdgeTest::busy, z -> z.runScript(n, 0));
            CHECK.refused("runScript(" + n + ", -1)", ARGUMENT, ScriptEdgeTest::busy, z -> z.runScript(n, -1));
            CHECK.refused("runScript(" + n + ", 4001)", ARGUMENT, ScriptEdgeTest::busy, z -> z.runScript(n, 4001));
        }
        long script = 0;
        for (int n = 1; n <= 4; n++) {
            script = script * 10000 + 4001;
            CHECK.due(n + " commands that succeed", line().runScript(n, script), NONE);
            CHECK.due("the last of " + n + " fails", line().runScript(n, script + 1), n - 1);
        }
    }

    /** "a number of at most 4 * n digits (0 or more)", "if script is negative or has more than 4 * n digits". */
    private static void numbersOfDigits() {
        long limit = 1;
        for (int n = 1; n <= 4; n++) {
            limit *= 10000;
            int count = n;
            long first = limit;
            CHECK.due("the greatest script of " + n, busy().runScript(n, limit - 1), 0);
            CHECK.refused("one more for " + n, ARGUMENT, ScriptEdgeTest::busy, z -> z.runScript(count, first));
            CHECK.refused("two more for " + n, ARGUMENT, ScriptEdgeTest::busy, z -> z.runScript(count, first + 1));
            CHECK.refused("a digit too many, else good", ARGUMENT, ScriptEdgeTest::busy,
                z -> z.runScript(count, first + 4002));
            CHECK.refused("ten times as much", ARGUMENT, ScriptEdgeTest::busy, z -> z.runScript(count, 10 * first));
            long[] wrong = {-1, -4002, Long.MIN_VALUE, Long.MAX_VALUE};
            for (long script : wrong) {
                CHECK.refused("the script " + script, ARGUMENT, ScriptEdgeTest::busy, z -> z.runScript(count, script));
            }
            CHECK.due("the script 0 has the group 0000", busy().runScript(n, 0), 0);
            CHECK.due("too few digits: leading zeros", busy().runScript(n, 4002), n == 1 ? NONE : 0);
        }
    }

    /** "the first command is the highest group of the number", "the index, from 0, of the first command that fails". */
    private static void orderOfCommands() {
        CHECK.due("the first of four", line().runScript(4, 4002_4001_4001_4001L), 0);
        CHECK.due("the second of four", line().runScript(4, 4001_4002_4001_4001L), 1);
        CHECK.due("the third of four", line().runScript(4, 4001_4001_4002_4001L), 2);
        CHECK.due("the fourth of four", line().runScript(4, 4001_4001_4001_4002L), 3);
        CHECK.due("none of four", line().runScript(4, 4001_4001_4001_4001L), NONE);
        CHECK.due("the first of two that fail", line().runScript(4, 4001_4002_4002_4001L), 1);
        CHECK.due("a group of zeros within", line().runScript(3, 4001_0000_4001L), 1);
        CHECK.due("a vertex, then the other", line().runScript(4, 2001_2002_3001_6099L), NONE);
    }

    /** "1 k n n: makes nn steps of kind k (01 to 50), one after the other". */
    private static void steps() {
        PolytopeDescent x = line();
        for (int kind = 0; kind <= 2; kind += 2) {
            bad(x, 1000 + 100 * kind);
            good(x, 1001 + 100 * kind);
            good(x, 1049 + 100 * kind);
            good(x, 1050 + 100 * kind);
            bad(x, 1051 + 100 * kind);
            bad(x, 1099 + 100 * kind);
        }
        for (int kind = 3; kind <= 9; kind++) {
            bad(x, 1001 + 100 * kind);
        }
        PolytopeDescent still = Check.loaded("P1s8r+1+03");
        still.transfer(0, 1, 37);
        good(still, 1101);
        good(still, 1150);
        bad(still, 1100);
        bad(still, 1151);
        CHECK.due("steps that move nothing are made, too", line().runScript(3, 2001_1050_4001L), NONE);
        PolytopeDescent z = Check.loaded("P1l3059r+1+09");
        CHECK.due("one step, one drop", z.runScript(3, 3001_1201_8001L), NONE);
        CHECK.due("two steps, two drops", z.runScript(3, 3001_1202_8002L), NONE);
        CHECK.due("three steps, two drops", z.runScript(3, 3001_1203_8002L), NONE);
    }

    /** The number of steps is the one that is asked for: the mixture after 49 and after 50 steps. */
    private static void numbersOfSteps() {
        int[] counts = {1, 2, 49, 50};
        for (int n : counts) {
            PolytopeDescent x = slow();
            x.run(2, n);
            int atoms = x.about(4);
            int units = x.atom(0, 1);
            x.undo();
            long first = (1200L + n) * 10000;
            CHECK.due("atoms after " + n + " steps", x.runScript(2, first + 4000 + atoms), NONE);
            CHECK.due("units after " + n + " steps", x.runScript(2, first + 6000 + units), NONE);
            CHECK.due("no more units after " + n + " steps", x.runScript(2, first + 6001 + units), 1);
        }
        PolytopeDescent y = slow();
        y.run(2, 49);
        int before = y.atom(0, 1);
        y.step(2);
        CHECK.isTrue("the fiftieth step changes the units", y.atom(0, 1) != before);
    }

    private static PolytopeDescent slow() {
        PolytopeDescent x = Check.loaded("P3c6r-9+3-1+18r-9+8-9-00r-6-1+1-14");
        x.reset(1);
        return x;
    }

    /** "fails if one of them is not possible": the first or a later one. */
    private static void impossibleSteps() {
        bad(line(), 1101);
        bad(line(), 1150);
        PolytopeDescent x = Check.loaded("P2b99r+2+1+00");
        x.reset(1);
        x.transfer(0, 2, 20);
        x.transfer(0, 3, 30);
        good(x, 1101);
        good(x, 1102);
        bad(x, 1103);
        bad(x, 1150);
        CHECK.due("after one step two atoms", x.runScript(2, 1101_4002L), NONE);
        CHECK.due("after two steps one atom and two drops", x.runScript(3, 1102_4001_8002L), NONE);
        CHECK.due("the third command is not reached", x.runScript(3, 1102_1101_4009L), 1);
    }

    /** "2 0 v v: gives all units to vertex vv (as reset)": the counts become 0, too. */
    private static void resets() {
        PolytopeDescent x = line();
        good(x, 2000);
        good(x, 2002);
        bad(x, 2003);
        bad(x, 2099);
        bad(x, 2100);
        bad(x, 2902);
        PolytopeDescent many = manyAtoms();
        good(many, 2023);
        bad(many, 2024);
        CHECK.due("one atom with all units", many.runScript(4, 2023_4001_6099_8000L), NONE);
        PolytopeDescent y = Check.loaded("P1l3059r+1+09");
        y.step(2);
        good(y, 8001);
        CHECK.due("the drops become 0", y.runScript(2, 2000_8000L), NONE);
    }

    /** "3 i v v: moves one unit from atom i to vertex vv". */
    private static void moves() {
        PolytopeDescent x = line();
        good(x, 3000);
        good(x, 3001);
        good(x, 3002);
        bad(x, 3003);
        bad(x, 3099);
        bad(x, 3100);
        bad(x, 3900);
        CHECK.due("one unit, no more and no less", x.runScript(4, 3002_6099_6101_4002L), NONE);
        CHECK.due("not two", x.runScript(2, 3002_6102L), 1);
        CHECK.due("to itself: nothing changes", x.runScript(2, 3000_4001L), NONE);
        CHECK.due("there and back: the atom goes", x.runScript(3, 3002_3100_4001L), NONE);
        CHECK.due("the removed atom is no drop", x.runScript(4, 3002_3100_8000_4001L), NONE);
        CHECK.due("the removed atom does not exist", x.runScript(3, 3002_3100_3100L), 2);
        PolytopeDescent many = manyAtoms();
        good(many, 3023);
        bad(many, 3024);
        good(many, 3923);
        CHECK.due("atom 9 loses its only unit", many.runScript(2, 3923_4023L), NONE);
        PolytopeDescent y = line();
        for (int v = 1; v <= 2; v++) {
            y.transfer(0, v, 1);
        }
        good(y, 3200);
        bad(y, 3300);
    }

    /** "4 0 x y: succeeds if there are xy atoms." */
    private static void atomCounts() {
        PolytopeDescent x = line();
        bad(x, 4000);
        good(x, 4001);
        bad(x, 4002);
        bad(x, 4101);
        bad(x, 4901);
        PolytopeDescent many = manyAtoms();
        bad(many, 4023);
        good(many, 4024);
        bad(many, 4025);
        bad(many, 4124);
    }

    /** "5 0 v v: succeeds if vv is the best vertex." */
    private static void bestVertices() {
        PolytopeDescent x = line();
        good(x, 5002);
        bad(x, 5001);
        bad(x, 5000);
        bad(x, 5003);
        bad(x, 5102);
        PolytopeDescent flat = Check.loaded("P1l3059r+0+05");
        good(flat, 5000);
        bad(flat, 5001);
        PolytopeDescent many = Check.loaded("P4p1234r+9+8+7+1+99");
        good(many, 5023);
        bad(many, 5024);
        bad(many, 5123);
        CHECK.due("of the copy", x.runScript(2, 2002_5000L), NONE);
    }

    /** "6 i x y: succeeds if atom i has at least xy units." */
    private static void unitCounts() {
        PolytopeDescent x = line();
        good(x, 6000);
        good(x, 6099);
        bad(x, 6100);
        bad(x, 6900);
        x.transfer(0, 1, 41);
        good(x, 6058);
        good(x, 6059);
        bad(x, 6060);
        good(x, 6100);
        good(x, 6141);
        bad(x, 6142);
        bad(x, 6200);
        PolytopeDescent many = manyAtoms();
        good(many, 6901);
        bad(many, 6902);
    }

    /** "7 0 0 0: succeeds if the gap is 0." */
    private static void gaps() {
        PolytopeDescent x = line();
        bad(x, 7000);
        x.reset(1);
        CHECK.due("no gap", x.gap(), 0);
        good(x, 7000);
        bad(x, 7001);
        bad(x, 7010);
        bad(x, 7100);
        CHECK.due("with a gap in the copy", x.runScript(2, 3000_7000L), 1);
        CHECK.due("the gap closes in the copy", line().runScript(2, 2001_7000L), NONE);
    }

    /** "8 0 x y: succeeds if the count of drops is xy": 99 can be asked for, 100 and more cannot. */
    private static void dropCounts() {
        PolytopeDescent x = Check.loaded("P1s1r+1+99");
        good(x, 8000);
        bad(x, 8001);
        for (int n = 1; n <= 99; n++) {
            x.step(2);
            x.transfer(0, 0, 100);
        }
        good(x, 8099);
        bad(x, 8098);
        bad(x, 8199);
        x.step(2);
        CHECK.due("a hundred drops", x.about(6), 100);
        bad(x, 8099);
        bad(x, 8000);
        bad(x, 8100);
        x.reset(0);
        good(x, 8000);
        bad(x, 8100);
    }

    /** "and so does any other group": all of 10000 groups on a state, against the document's list. */
    private static void allGroups() {
        PolytopeDescent x = null;
        for (int group = 0; group < 10000; group++) {
            if (group % 400 == 0) {
                x = line();
                x.transfer(0, 1, 41);
            }
            boolean succeeds = listed(group / 1000, group / 100 % 10, group % 100);
            CHECK.due("the group " + group, x.runScript(1, group), succeeds ? NONE : 0);
        }
    }

    /** What the document's list says for the atoms 0:59 1:41 of three vertices, of which 2 is the best one. */
    private static boolean listed(int first, int second, int last) {
        switch (first) {
            case 1:
                // The first away step leaves one atom.
                return (second == 0 || second == 2) && last >= 1 && last <= 50 || second == 1 && last == 1;
            case 2:
                return second == 0 && last <= 2;
            case 3:
                return second <= 1 && last <= 2;
            case 4:
                return second == 0 && last == 2;
            case 5:
                return second == 0 && last == 2;
            case 6:
                return second == 0 && last <= 59 || second == 1 && last <= 41;
            case 8:
                return second == 0 && last == 0;
            default:
                return false;
        }
    }

    /** "Runs a script on a copy of the state": also a failing one leaves everything. */
    private static void scriptsLeaveAll() {
        long[] scripts = {2003_1050_3001_1250L, 1050_1050_1050_9999L, 3001_3001_3001_3001L, 9999_2003_2003_2003L};
        for (long script : scripts) {
            PolytopeDescent x = busy();
            x.runScript(4, script);
            CHECK.same("after the script " + script, Check.lastLook(x), Check.lastLook(busy()));
        }
    }

    /** "number of rounds, 1 to 50", "if m is out of range". */
    private static void rounds() {
        int[] wrong = {Integer.MIN_VALUE, -1, 0, 51, 52, 256 + 1, Integer.MAX_VALUE};
        for (int m : wrong) {
            CHECK.refused("simulate(1, " + m + ")", ARGUMENT, ScriptEdgeTest::busy, z -> z.simulate(1, m));
        }
        long[] seeds = {0, 1, -1, Long.MIN_VALUE, Long.MAX_VALUE, Integer.MIN_VALUE, 1L << 33, 6364136223846793005L};
        int[] right = {1, 2, 49, 50};
        for (long seed : seeds) {
            for (int m : right) {
                CHECK.due("simulate(" + seed + ", " + m + ")", busy().simulate(seed, m), played(busy(), seed, m));
                CHECK.due("of one vertex", single().simulate(seed, m), 0);
                CHECK.due("of 24 atoms", manyAtoms().simulate(seed, m), played(manyAtoms(), seed, m));
            }
        }
    }

    private static PolytopeDescent single() {
        return Check.loaded("P1l15r+9+99");
    }

    /** "with long overflow": the same numbers, cut down to 64 bits by hand. */
    private static BigInteger next(BigInteger x) {
        return x.multiply(new BigInteger("6364136223846793005")).add(new BigInteger("1442695040888963407"))
            .mod(BigInteger.ONE.shiftLeft(64));
    }

    private static int drawn(BigInteger x) {
        return x.shiftRight(33).intValueExact();
    }

    private static long played(PolytopeDescent x, long seed, int m) {
        BigInteger y = BigInteger.valueOf(seed);
        for (int i = 0; i < m; i++) {
            y = next(y);
            int r = drawn(y);
            if (r % 4 == 3) {
                int atom = r / 4 % x.about(4);
                x.transfer(atom, r / 4096 % x.about(2), r / 128 % (x.atom(atom, 1) + 1));
            } else if (r % 4 != 1 || x.about(4) >= 2) {
                x.step(r % 4);
            }
        }
        return x.gap();
    }

    /** "a step of this kind is made, if it is possible": an away step of one atom is passed over. */
    private static void roundsOfOneAtom() {
        int away = 0;
        for (long seed = 0; seed < 200; seed++) {
            if (drawn(next(BigInteger.valueOf(seed))) % 4 == 1) {
                PolytopeDescent x = line();
                CHECK.due("an away step of one atom, seed " + seed, x.simulate(seed, 1), x.gap());
                away++;
            }
        }
        CHECK.isTrue("there are such seeds", away > 0);
    }

    /** "r / 128 % (units + 1) units are moved": none and all are among them. */
    private static void movedUnits() {
        int none = 0;
        int all = 0;
        int itself = 0;
        for (long seed = 0; seed < 5000; seed++) {
            int r = drawn(next(BigInteger.valueOf(seed)));
            int units = r / 128 % 101;
            int v = r / 4096 % 3;
            if (r % 4 != 3 || units != 0 && units != 100 && v != 0) {
                continue;
            }
            PolytopeDescent x = line();
            long got = x.simulate(seed, 1);
            none += units == 0 ? 1 : 0;
            all += units == 100 && v != 0 ? 1 : 0;
            itself += v == 0 ? 1 : 0;
            x.reset(units == 100 ? v : 0);
            CHECK.due(units + " units to " + v + ", seed " + seed, got, x.gap());
        }
        CHECK.isTrue("there are seeds that move nothing", none > 0);
        CHECK.isTrue("there are seeds that move all", all > 0);
        CHECK.isTrue("there are seeds that move to the atom itself", itself > 0);
    }

    /** "Simulates m rounds on a copy of the state." */
    private static void simulationsLeaveAll() {
        Supplier<PolytopeDescent> make = ScriptEdgeTest::busy;
        for (long seed = -2; seed <= 2; seed++) {
            PolytopeDescent x = make.get();
            x.simulate(seed, 50);
            CHECK.same("after simulate(" + seed + ", 50)", Check.lastLook(x), Check.lastLook(make.get()));
        }
    }

    public static void main(String[] args) {
        numbersOfCommands();
        numbersOfDigits();
        orderOfCommands();
        steps();
        numbersOfSteps();
        impossibleSteps();
        resets();
        moves();
        atomCounts();
        bestVertices();
        unitCounts();
        gaps();
        dropCounts();
        allGroups();
        scriptsLeaveAll();
        rounds();
        roundsOfOneAtom();
        movedUnits();
        simulationsLeaveAll();
        CHECK.close();
    }
}
