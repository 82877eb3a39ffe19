import java.util.Random;
import java.util.function.Supplier;

/** The boundary cases of the section ROWS AND MIXTURE and of the promises 17 to 26; each method holds one sentence. */
public final class MixtureEdgeTest {
    private static final Check CHECK = new Check("MixtureEdgeTest");
    private static final int[] FAR = {Integer.MIN_VALUE, -1 << 24, -256, -2, -1, 100, 256, 1 << 24, Integer.MAX_VALUE};
    private static final Class<IndexOutOfBoundsException> INDEX = IndexOutOfBoundsException.class;
    private static final Class<IllegalArgumentException> ARGUMENT = IllegalArgumentException.class;

    /** The box with the corners 00 05 30 35; rows x - 2y = 7 and -3x + 4y = -8. */
    private static PolytopeDescent busy() {
        PolytopeDescent x = Check.loaded("P2b35r+1-2+07r-3+4-08");
        x.transfer(0, 1, 20);
        x.transfer(0, 2, 50);
        x.save(1);
        return x;
    }

    private static void mixture(String what, PolytopeDescent x, String due) {
        CHECK.same(what, Check.mixture(x), due);
    }

    /** "At first vertex 0 has all units." */
    private static void atFirst() {
        mixture("a new object", new PolytopeDescent(), "0:100");
        for (String text : new String[] {"P1c9r+1+00", "P4p4321r+1+1+1+1+00", "P1l15r+1+00", "P3b123r+1+1+1-99"}) {
            mixture("after load of " + text, Check.loaded(text), "0:100");
        }
    }

    /** "numbered from 0 in the order in which they came (a vertex that lost all its units and comes again comes last)". */
    private static void theOrderOfComing() {
        PolytopeDescent x = Check.loaded("P1l40369r+1+09");
        x.transfer(0, 2, 10);
        x.transfer(0, 1, 20);
        mixture("in the order of coming", x, "0:70 2:10 1:20");
        x.transfer(1, 1, 9);
        mixture("one unit is enough to stay", x, "0:70 2:1 1:29");
        x.transfer(0, 2, 5);
        mixture("and the place stays", x, "0:65 2:6 1:29");
        x.transfer(1, 1, 6);
        mixture("without units it goes", x, "0:65 1:35");
        x.transfer(0, 2, 5);
        mixture("and comes again as the last", x, "0:60 1:35 2:5");
        x.transfer(0, 1, 60);
        x.transfer(0, 0, 1);
        mixture("vertex 0 too", x, "1:94 2:5 0:1");
    }

    /** Steps take vertices away and bring them back by the same rule. */
    private static void theOrderAfterSteps() {
        PolytopeDescent x = Check.loaded("P1l3059r+1+09");
        x.transfer(0, 1, 30);
        x.step(2);
        mixture("vertex 0 was dropped, vertex 2 came", x, "1:30 2:70");
        x.setRow(0, 1, 0);
        CHECK.due("vertex 2 is the worst, vertex 0 the best", x.step(2), 70);
        mixture("vertex 0 comes again as the last", x, "1:30 0:70");
        x.setRow(0, 1, 9);
        CHECK.due("towards vertex 2", x.step(0), 100);
        mixture("vertex 2 alone", x, "2:100");
    }

    private static void noSuch(String name, Supplier<PolytopeDescent> make, int count,
        java.util.function.ObjIntConsumer<PolytopeDescent> body) {
        for (int i = 0; i < count; i++) {
            body.accept(make.get(), i);
        }
        refusedAt(name, make, count, body);
        for (int i : FAR) {
            refusedAt(name, make, i, body);
        }
    }

    private static void refusedAt(String name, Supplier<PolytopeDescent> make, int i,
        java.util.function.ObjIntConsumer<PolytopeDescent> body) {
        CHECK.refused(name + "(" + i + ")", INDEX, make, z -> {
            body.accept(z, i);
            return 0;
        });
    }

    /** "if there is no such coordinate": 0 to d - 1 are taken. */
    private static void points() {
        for (int d = 1; d <= 4; d++) {
            String text = "P" + d + "b" + "9".repeat(d) + "r" + "+1".repeat(d) + "+00";
            noSuch("point", () -> Check.loaded(text), d, PolytopeDescent::point);
            PolytopeDescent x = Check.loaded(text);
            CHECK.due("all units at 0", x.point(d - 1), 0);
            x.reset((1 << d) - 1);
            CHECK.due("all units at 9", x.point(d - 1), 900);
        }
        PolytopeDescent y = Check.loaded("P2c9r+1+1+00");
        CHECK.due("the smallest coordinate of X", y.point(0), -900);
        y.transfer(0, 3, 50);
        CHECK.due("halves cancel", y.point(0), 0);
        y.transfer(0, 2, 1);
        CHECK.due("one unit", y.point(1), 9);
    }

    /** "if there is no such row": 0 to the number of rows - 1 are taken. */
    private static void residuals() {
        for (int n = 1; n <= 4; n++) {
            String text = "P1s1" + "r+1+01".repeat(n);
            noSuch("residual", () -> Check.loaded(text), n, PolytopeDescent::residual);
            CHECK.due("the last residual", Check.loaded(text).residual(n - 1), -100);
        }
        PolytopeDescent x = Check.loaded("P4b9999r+9+9+9+9-99r-9-9-9-9+99r+0+0+0+0+00");
        x.reset(15);
        CHECK.due("the greatest residual", x.residual(0), 4 * 9 * 900 + 9900);
        CHECK.due("the smallest residual", x.residual(1), -4 * 9 * 900 - 9900);
        CHECK.due("no factor, no target", x.residual(2), 0);
    }

    /** "if there is no such vertex or coordinate": ofVertex says which of the two is meant. */
    private static void slopes() {
        noSuch("slope of coordinate", MixtureEdgeTest::busy, 2, (z, j) -> z.slope(j, false));
        noSuch("slope of vertex", MixtureEdgeTest::busy, 4, (z, j) -> z.slope(j, true));
        Supplier<PolytopeDescent> single = () -> Check.loaded("P4l11234r+1+1+1+1+00");
        noSuch("slope of coordinate", single, 4, (z, j) -> z.slope(j, false));
        noSuch("slope of the only vertex", single, 1, (z, j) -> z.slope(j, true));
        PolytopeDescent x = Check.loaded("P2l20012r+1+2+03");
        CHECK.due("slope of coordinate 1", x.slope(1, false), 2 * -300 * 2);
        CHECK.due("slope of vertex 1", x.slope(1, true), -600 + 2 * -1200);
        CHECK.due("slope of the origin", x.slope(0, true), 0);
    }

    /** The greatest numbers that there can be are beyond an int. */
    private static void greatest() {
        PolytopeDescent x = Check.loaded("P4b9999" + "r+9+9+9+9-99".repeat(4));
        x.reset(15);
        CHECK.due("value", x.value(), 7157160000L);
        CHECK.due("slope of a coordinate", x.slope(3, false), 3045600);
        CHECK.due("slope of a vertex", x.slope(15, true), 109641600);
        CHECK.due("gap", x.gap(), 10964160000L);
        CHECK.due("best", x.best(), 0);
        PolytopeDescent y = Check.loaded("P4b9999" + "r-9-9-9-9+99".repeat(4));
        y.reset(15);
        CHECK.due("value", y.value(), 7157160000L);
        CHECK.due("slope of a vertex", y.slope(15, true), 109641600);
        PolytopeDescent z = Check.loaded("P4c9" + "r-9+9-9+9+99".repeat(4));
        z.reset(7);
        CHECK.due("the greatest slope of a vertex of a cross", z.slope(7, true), 9L * 2 * 4 * 18000 * 9);
        CHECK.due("the smallest", z.slope(0, true), -9L * 2 * 4 * 18000 * 9);
        CHECK.due("the greatest gap of a cross", z.gap(), 2 * 900L * 2 * 4 * 18000 * 9);
    }

    /** "The best vertex is the one with the smallest slope, among several the one with the smallest number." */
    private static void best() {
        PolytopeDescent x = Check.loaded("P2b99r+1+0+05");
        CHECK.due("two are best", x.face(), 0b1100);
        CHECK.due("the smaller number of the two", x.best(), 2);
        x.reset(3);
        CHECK.due("also if the other has all units", x.best(), 0);
        PolytopeDescent flat = Check.loaded("P2b99r+0+0+05");
        flat.reset(3);
        CHECK.due("all are best", flat.face(), 0b1111);
        CHECK.due("the first of all", flat.best(), 0);
        CHECK.due("of a single vertex", Check.loaded("P4l19999r+9+9+9+9-99").best(), 0);
        PolytopeDescent last = Check.loaded("P4p1234r+9+0+0+0+99");
        CHECK.due("the first of the last six", last.best(), 18);
    }

    /** "The worst atom is the one whose vertex has the greatest slope, among several the first one": first as an atom. */
    private static void worst() {
        PolytopeDescent x = Check.loaded("P2b99r+1+0+00");
        x.transfer(0, 3, 50);
        x.transfer(0, 2, 50);
        mixture("vertex 3 came before vertex 2", x, "3:50 2:50");
        CHECK.due("equal slopes: the first atom", x.worst(), 0);
        x.transfer(0, 0, 50);
        x.transfer(0, 3, 50);
        mixture("now it is behind", x, "0:50 3:50");
        CHECK.due("the greater slope", x.worst(), 1);
        x.transfer(0, 1, 50);
        x.transfer(0, 2, 20);
        mixture("three atoms", x, "3:30 1:50 2:20");
        CHECK.due("equal slopes, not side by side", x.worst(), 0);
        PolytopeDescent one = Check.loaded("P2b99r+1+0+05");
        one.reset(3);
        CHECK.due("the only atom is the worst", one.worst(), 0);
        PolytopeDescent high = Check.loaded("P1l3059r+1+01");
        high.reset(1);
        CHECK.due("a vertex without units is not the worst", high.worst(), 0);
    }

    /** "It is never negative", and it is 0 where no point is better. */
    private static void noGap() {
        CHECK.due("at the target", new PolytopeDescent().gap(), 0);
        CHECK.due("one vertex", Check.loaded("P4l19999r+9+9+9+9-99").gap(), 0);
        CHECK.due("no factors", Check.loaded("P2b99r+0+0+99").gap(), 0);
        CHECK.due("no better vertex", Check.loaded("P2b99r+1+1-99").gap(), 0);
        PolytopeDescent x = Check.loaded("P1s1r+4+01");
        x.transfer(0, 1, 25);
        CHECK.due("at the target inside", x.gap(), 0);
        CHECK.due("and the value there", x.value(), 0);
        x.transfer(0, 1, 1);
        CHECK.due("one unit too many: 2 * 4 * 4 * 26", x.gap(), 832);
        x.transfer(0, 0, 0);
        x.transfer(1, 0, 2);
        CHECK.due("one unit too few: 2 * 4 * 4 * 76", x.gap(), 2432);
    }

    /** "the value is at most greater by the gap than that of any point of the polytope". */
    private static void theGapBounds() {
        Random random = new Random(6);
        String[] texts = {"P2b35r+1-2+07r-3+4-08", "P3c4r+1-2+3+07r-3+4+1-08", "P4p1379r+1-2+3-4+07r-3+4+1-2-08",
            "P2l5019944" + "3570" + "r+9-8-01r+1+1+05", "P1s9r-3-02r+5+31"};
        for (String text : texts) {
            for (int n = 0; n < 40; n++) {
                PolytopeDescent here = scattered(text, random);
                PolytopeDescent there = scattered(text, random);
                CHECK.isTrue("the gap is not negative", here.gap() >= 0);
                CHECK.isTrue("the gap bounds, " + text, here.value() - there.value() <= here.gap());
            }
        }
    }

    private static PolytopeDescent scattered(String text, Random random) {
        PolytopeDescent x = Check.loaded(text);
        x.reset(random.nextInt(x.about(2)));
        for (int i = 0; i < 6; i++) {
            int atom = random.nextInt(x.about(4));
            x.transfer(atom, random.nextInt(x.about(2)), random.nextInt(x.atom(atom, 1) + 1));
        }
        return x;
    }

    /** "the set of all vertices with the smallest slope, as a bit set": bit 0 to bit 23. */
    private static void faces() {
        CHECK.due("one vertex", Check.loaded("P1l15r+1+00").face(), 1);
        CHECK.due("24 vertices", Check.loaded("P4p1234r+0+0+0+0+00").face(), 0xFFFFFF);
        CHECK.due("the last six of 24", Check.loaded("P4p1234r+9+0+0+0+99").face(), 0xFC0000);
        CHECK.due("the last of 24 alone", Check.loaded("P4p1234r+9+8+7+1+99").face(), 0x800000);
        CHECK.due("the first of 24 alone", Check.loaded("P4p1234r+9+8+7+1-99").face(), 1);
        CHECK.due("the other two of a box", Check.loaded("P2b99r+0+1+05").face(), 0b1010);
    }

    private static void refusedOracle(Supplier<PolytopeDescent> make, int j, int factor) {
        int[] f = new int[4];
        f[j] = factor;
        CHECK.refused("oracle with " + factor + " at " + j, ARGUMENT, make, z -> z.oracle(f[0], f[1], f[2], f[3]));
    }

    /** "-999 to 999, likewise (factors of coordinates that there are not do not matter, but must be in the range, too)". */
    private static void oracleRange() {
        for (int d = 1; d <= 4; d++) {
            String text = "P" + d + "b" + "9".repeat(d) + "r" + "+1".repeat(d) + "+00";
            for (int j = 0; j < 4; j++) {
                int[] f = new int[4];
                f[j] = -999;
                int due = j < d ? 1 << (d - 1 - j) : 0;
                CHECK.due("oracle with -999 at " + j, Check.loaded(text).oracle(f[0], f[1], f[2], f[3]), due);
                f[j] = 999;
                CHECK.due("oracle with 999 at " + j, Check.loaded(text).oracle(f[0], f[1], f[2], f[3]), 0);
                for (int wrong : new int[] {-1000, 1000, Integer.MIN_VALUE, Integer.MAX_VALUE}) {
                    refusedOracle(() -> Check.loaded(text), j, wrong);
                }
            }
        }
        refusedOracle(MixtureEdgeTest::busy, 0, 1000);
        refusedOracle(MixtureEdgeTest::busy, 3, -1000);
    }

    /** "the vertex for which the sum .. is smallest, among several the one with the smallest number": not by the rows. */
    private static void oracleTies() {
        PolytopeDescent x = Check.loaded("P2b99r+1+0+99");
        CHECK.due("no factors", x.oracle(0, 0, 0, 0), 0);
        CHECK.due("1 and 3 are equal", x.oracle(0, -1, 0, 0), 1);
        CHECK.due("2 and 3 are equal", x.oracle(-1, 0, 0, 0), 2);
        CHECK.due("1 and 2 are equal", x.oracle(1, 1, 0, 0), 0);
        PolytopeDescent y = Check.loaded("P2l3" + "192855" + "r+1+0+99");
        CHECK.due("all are equal", y.oracle(1, 1, 0, 0), 0);
        CHECK.due("a difference of 1 counts", y.oracle(-999, -998, 0, 0), 2);
        CHECK.due("the other way", y.oracle(998, 999, 0, 0), 2);
        CHECK.due("and back", y.oracle(999, 998, 0, 0), 0);
    }

    /** "the vertex for which the value is smallest if it has all units, among several the one with the smallest number". */
    private static void bestAlone() {
        PolytopeDescent x = Check.loaded("P1l8" + "12345678" + "r+2+09");
        CHECK.due("4 and 5 are equally near to 4.5", x.bestAlone(), 3);
        x.reset(7);
        CHECK.due("whatever the mixture", x.bestAlone(), 3);
        x.setRow(0, 1, 99);
        CHECK.due("the last one", x.bestAlone(), 7);
        x.setRow(0, 1, -99);
        CHECK.due("the first one", x.bestAlone(), 0);
        x.setRow(0, 0, 0);
        CHECK.due("all alike", x.bestAlone(), 0);
        CHECK.due("one vertex", Check.loaded("P1l15r+9-99").bestAlone(), 0);
        CHECK.due("the second of two", Check.loaded("P1l234r+1+04").bestAlone(), 1);
        CHECK.due("the first of two", Check.loaded("P1l234r+1+03").bestAlone(), 0);
        CHECK.due("the second of three", Check.loaded("P1l3345r+1+04").bestAlone(), 1);
        PolytopeDescent y = Check.loaded("P4p1234r+9+9+9+9+99r+9+8+7+1+99r+9+8+7+1+99r+9+8+7+1+99");
        CHECK.due("the last of 24", y.bestAlone(), 23);
        // As ints the greater values would wrap around to negative ones.
        PolytopeDescent z = Check.loaded("P4b9999" + "r+9+9+9+9-99".repeat(4));
        CHECK.due("beyond an int", z.bestAlone(), 0);
    }

    /** "these and all following methods up to the save slots change nothing". */
    private static void questionsChangeNothing() {
        PolytopeDescent x = busy();
        x.point(1);
        x.residual(1);
        x.slope(1, false);
        x.slope(3, true);
        x.value();
        x.gap();
        x.best();
        x.worst();
        x.face();
        x.oracle(1, -2, 3, -4);
        x.bestAlone();
        x.search(1, 2, true);
        for (int kind = 0; kind <= 2; kind++) {
            for (int what = 0; what <= 3; what++) {
                x.preview(kind, what);
            }
            x.stepsUntil(kind, 0);
        }
        x.runScript(4, 1005_2003_3001_1250L);
        x.simulate(-1, 50);
        CHECK.same("after all questions the object", Check.lastLook(x), Check.lastLook(busy()));
    }

    public static void main(String[] args) {
        atFirst();
        theOrderOfComing();
        theOrderAfterSteps();
        points();
        residuals();
        slopes();
        greatest();
        best();
        worst();
        noGap();
        theGapBounds();
        faces();
        oracleRange();
        oracleTies();
        bestAlone();
        questionsChangeNothing();
        CHECK.close();
    }
}
