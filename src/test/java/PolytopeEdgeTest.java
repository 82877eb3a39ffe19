import java.util.function.Supplier;

/** The boundary cases of the section POLYTOPE and of the promises 6 to 10; each method holds one sentence. */
public final class PolytopeEdgeTest {
    private static final Check CHECK = new Check("PolytopeEdgeTest");
    private static final int NONE = PolytopeDescent.NONE;
    private static final int[] FAR = {Integer.MIN_VALUE, -1 << 24, -256, -2, -1, 100, 256, 1 << 24, Integer.MAX_VALUE};
    private static final Class<IndexOutOfBoundsException> INDEX = IndexOutOfBoundsException.class;
    private static final Class<IllegalArgumentException> ARGUMENT = IllegalArgumentException.class;

    private static void vertices(String polytope, String due) {
        int d = polytope.charAt(1) - '0';
        PolytopeDescent x = Check.loaded(polytope + "r" + "+1".repeat(d) + "+00");
        CHECK.same("vertices of " + polytope, Check.vertices(x), due);
        CHECK.due("number of vertices of " + polytope, x.about(2), due.split(" ").length);
        CHECK.due("kind of " + polytope, x.about(1), "sbcpl".indexOf(polytope.charAt(2)));
    }

    /** "kind 0 (simplex), with a size r (1 to 9): the origin, and for each coordinate the point with r there". */
    private static void simplex() {
        vertices("P1s1", "0 1");
        vertices("P1s9", "0 9");
        vertices("P2s3", "00 03 30");
        vertices("P4s9", "0000 0009 0090 0900 9000");
    }

    /** "kind 1 (box), with a size u (1 to 9) for each coordinate: all points whose coordinate j is 0 or u(j)". */
    private static void box() {
        vertices("P1b1", "0 1");
        vertices("P1b9", "0 9");
        vertices("P2b19", "00 09 10 19");
        vertices("P4b1239", "0000 0009 0030 0039 0200 0209 0230 0239 1000 1009 1030 1039 1200 1209 1230 1239");
    }

    /** "kind 2 (cross), with a size r (1 to 9): for each coordinate the points with r and with -r there". */
    private static void cross() {
        vertices("P1c1", "-1 1");
        vertices("P1c9", "-9 9");
        vertices("P2c3", "-30 0-3 03 30");
        vertices("P4c2", "-2000 0-200 00-20 000-2 0002 0020 0200 2000");
    }

    /** "kind 3 (orders) .. in some order", "The vertices are different points": equal numbers make fewer of them. */
    private static void orders() {
        vertices("P1p0", "0");
        vertices("P1p9", "9");
        vertices("P2p90", "09 90");
        vertices("P2p77", "77");
        vertices("P4p0000", "0000");
        vertices("P4p9990", "0999 9099 9909 9990");
        vertices("P4p1122", "1122 1212 1221 2112 2121 2211");
        vertices("P4p3112", "1123 1132 1213 1231 1312 1321 2113 2131 2311 3112 3121 3211");
        vertices("P3p930", "039 093 309 390 903 930");
    }

    /** "There are at most 24": four different numbers make them all. */
    private static void most() {
        vertices("P4p9016", "0169 0196 0619 0691 0916 0961 1069 1096 1609 1690 1906 1960 "
            + "6019 6091 6109 6190 6901 6910 9016 9061 9106 9160 9601 9610");
        PolytopeDescent x = Check.loaded("P4p9016r+1+1+1+1+00");
        CHECK.due("the last vertex", x.vertex(23, 0), 9);
        CHECK.dueIndex("none after it", () -> x.vertex(24, 0));
        CHECK.due("find of the last", x.find(9, 6, 1, 0), 23);
    }

    /** "kind 4 (list): 1 to 8 different points with coordinates from 0 to 9". */
    private static void list() {
        vertices("P1l10", "0");
        vertices("P1l19", "9");
        vertices("P1l898765432", "2 3 4 5 6 7 8 9");
        vertices("P4l19999", "9999");
        vertices("P2l8" + "9990090011" + "100102", "00 01 02 09 10 11 90 99");
    }

    /** "numbered from 0 in lexicographic order (by coordinate 0, then by coordinate 1, and so on)". */
    private static void lexicographic() {
        vertices("P4l5" + "1000" + "0100" + "0010" + "0001" + "0000", "0000 0001 0010 0100 1000");
        vertices("P2l3" + "19" + "20" + "18", "18 19 20");
        vertices("P3l3" + "119" + "120" + "091", "091 119 120");
        PolytopeDescent x = Check.loaded("P4c9r+1+1+1+1+00");
        CHECK.due("the smallest coordinate 0 comes first", x.find(-9, 0, 0, 0), 0);
        CHECK.due("the greatest comes last", x.find(9, 0, 0, 0), 7);
    }

    /** "d coordinates, d from 1 to 4, numbered from 0": each d has its own last coordinate and target column. */
    private static void coordinates() {
        for (int d = 1; d <= 4; d++) {
            String text = "P" + d + "b" + "9".repeat(d) + ("r" + "-9".repeat(d) + "-99").repeat(4);
            Supplier<PolytopeDescent> make = () -> Check.loaded(text);
            PolytopeDescent x = make.get();
            int last = d;
            CHECK.due("d", x.about(0), d);
            CHECK.due("the last coordinate of d " + d, x.vertex((1 << d) - 1, d - 1), 9);
            CHECK.due("the last factor of d " + d, x.row(3, d - 1), -9);
            CHECK.due("the target of d " + d, x.row(3, d), -99);
            CHECK.refused("vertex(0, d), d = " + d, INDEX, make, z -> z.vertex(0, last));
            CHECK.refused("row(0, d + 1), d = " + d, INDEX, make, z -> z.row(0, last + 1));
            CHECK.refused("vertex behind the last, d = " + d, INDEX, make, z -> z.vertex(1 << last, 0));
        }
    }

    private static PolytopeDescent busy() {
        PolytopeDescent x = Check.loaded("P2c3r+1-2+07r-3+4-08");
        x.transfer(0, 3, 25);
        x.step(0);
        x.save(0);
        return x;
    }

    /** "what: 0 to 6", "if what is not 0 to 6". */
    private static void abouts() {
        PolytopeDescent x = Check.loaded("P2l3000590r+0+1+05r+0+1+05r+0+1+05");
        x.transfer(0, 1, 50);
        x.step(2);
        int[] due = {2, 4, 3, 3, 1, 1, 1};
        for (int what = 0; what <= 6; what++) {
            CHECK.due("about(" + what + ")", x.about(what), due[what]);
        }
        CHECK.refused("about(7)", ARGUMENT, PolytopeEdgeTest::busy, z -> z.about(7));
        for (int what : FAR) {
            CHECK.refused("about(" + what + ")", ARGUMENT, PolytopeEdgeTest::busy, z -> z.about(what));
        }
    }

    /** "if there is no such vertex or coordinate". */
    private static void noVertex() {
        PolytopeDescent x = busy();
        CHECK.due("vertex(0, 0)", x.vertex(0, 0), -3);
        CHECK.due("vertex(3, 1)", x.vertex(3, 1), 0);
        CHECK.refused("vertex(4, 0)", INDEX, PolytopeEdgeTest::busy, z -> z.vertex(4, 0));
        CHECK.refused("vertex(0, 2)", INDEX, PolytopeEdgeTest::busy, z -> z.vertex(0, 2));
        for (int i : FAR) {
            CHECK.refused("vertex(" + i + ", 0)", INDEX, PolytopeEdgeTest::busy, z -> z.vertex(i, 0));
            CHECK.refused("vertex(0, " + i + ")", INDEX, PolytopeEdgeTest::busy, z -> z.vertex(0, i));
        }
    }

    /** "if there is no such row, or j is out of range". */
    private static void noRow() {
        PolytopeDescent x = busy();
        CHECK.due("row(0, 0)", x.row(0, 0), 1);
        CHECK.due("row(1, 2)", x.row(1, 2), -8);
        CHECK.refused("row(2, 0)", INDEX, PolytopeEdgeTest::busy, z -> z.row(2, 0));
        CHECK.refused("row(0, 3)", INDEX, PolytopeEdgeTest::busy, z -> z.row(0, 3));
        for (int i : FAR) {
            CHECK.refused("row(" + i + ", 0)", INDEX, PolytopeEdgeTest::busy, z -> z.row(i, 0));
            CHECK.refused("row(0, " + i + ")", INDEX, PolytopeEdgeTest::busy, z -> z.row(0, i));
        }
    }

    /** "if there is no such atom", then "if what is not 0 or 1". */
    private static void noAtom() {
        PolytopeDescent x = busy();
        CHECK.due("atoms", x.about(4), 3);
        CHECK.due("the last atom", x.atom(2, 0), 1);
        CHECK.due("the last atom's units", x.atom(2, 1), 82);
        CHECK.refused("atom(3, 0)", INDEX, PolytopeEdgeTest::busy, z -> z.atom(3, 0));
        CHECK.refused("atom(3, 1): a vertex without units is no atom", INDEX, PolytopeEdgeTest::busy, z -> z.atom(3, 1));
        CHECK.refused("atom(1, 2)", ARGUMENT, PolytopeEdgeTest::busy, z -> z.atom(1, 2));
        for (int i : FAR) {
            CHECK.refused("atom(" + i + ", 0)", INDEX, PolytopeEdgeTest::busy, z -> z.atom(i, 0));
            CHECK.refused("atom(0, " + i + ")", ARGUMENT, PolytopeEdgeTest::busy, z -> z.atom(0, i));
            CHECK.refused("atom(" + i + ", 2): the atom counts first", INDEX, PolytopeEdgeTest::busy, z -> z.atom(i, 2));
        }
    }

    /** One vertex may have all 100 units, and all 24 may have some. */
    private static void fewAndManyAtoms() {
        PolytopeDescent x = Check.loaded("P4p1234r+1+1+1+1+00");
        CHECK.due("all units", x.atom(0, 1), 100);
        CHECK.dueIndex("no second atom", () -> x.atom(1, 0));
        for (int v = 23; v >= 1; v--) {
            CHECK.due("transfer to " + v, x.transfer(0, v, 1), 25 - v);
        }
        CHECK.due("24 atoms", x.about(4), 24);
        CHECK.due("the first keeps the rest", x.atom(0, 1), 77);
        CHECK.due("the last that came", x.atom(23, 0), 1);
        CHECK.dueIndex("no atom 24", () -> x.atom(24, 0));
        CHECK.due("reset of 24 atoms", x.reset(23), 24);
        CHECK.due("one is left", x.about(4), 1);
        CHECK.due("undo brings them back", x.undo(), 13);
        CHECK.due("all 24", x.about(4), 24);
    }

    /** "NONE if there is none there (also if a coordinate that there is not is not 0)." */
    private static void finding() {
        for (int d = 1; d <= 4; d++) {
            PolytopeDescent x = Check.loaded("P" + d + "s5r" + "+1".repeat(d) + "+00");
            CHECK.due("the origin, d = " + d, x.find(0, 0, 0, 0), 0);
            for (int j = 0; j < 4; j++) {
                int[] p = new int[4];
                p[j] = 5;
                CHECK.due("5 at " + j + ", d = " + d, x.find(p[0], p[1], p[2], p[3]), j < d ? d - j : NONE);
                p[j] = 4;
                CHECK.due("4 at " + j + ", d = " + d, x.find(p[0], p[1], p[2], p[3]), NONE);
                p[j] = -5;
                CHECK.due("-5 at " + j + ", d = " + d, x.find(p[0], p[1], p[2], p[3]), NONE);
                p[j] = 5 + (1 << 8);
                CHECK.due("261 at " + j + ", d = " + d, x.find(p[0], p[1], p[2], p[3]), NONE);
                p[j] = Integer.MIN_VALUE;
                CHECK.due("the smallest int at " + j + ", d = " + d, x.find(p[0], p[1], p[2], p[3]), NONE);
                p[j] = Integer.MAX_VALUE;
                CHECK.due("the greatest int at " + j + ", d = " + d, x.find(p[0], p[1], p[2], p[3]), NONE);
            }
        }
    }

    /** A coordinate that there is not, not 0, spoils a point that would be a vertex otherwise. */
    private static void findingBeyond() {
        PolytopeDescent x = Check.loaded("P1l3059r+1+00");
        CHECK.due("find(5)", x.find(5, 0, 0, 0), 1);
        CHECK.due("find(5, 1)", x.find(5, 1, 0, 0), NONE);
        CHECK.due("find(5, 0, -1)", x.find(5, 0, -1, 0), NONE);
        CHECK.due("find(5, 0, 0, 1)", x.find(5, 0, 0, 1), NONE);
        CHECK.due("find(0, 5)", x.find(0, 5, 0, 0), NONE);
        PolytopeDescent y = Check.loaded("P3b111r+1+1+1+00");
        CHECK.due("find(1, 1, 1)", y.find(1, 1, 1, 0), 7);
        CHECK.due("find(1, 1, 1, 1)", y.find(1, 1, 1, 1), NONE);
    }

    public static void main(String[] args) {
        simplex();
        box();
        cross();
        orders();
        most();
        list();
        lexicographic();
        coordinates();
        abouts();
        noVertex();
        noRow();
        noAtom();
        fewAndManyAtoms();
        finding();
        findingBeyond();
        CHECK.close();
    }
}
