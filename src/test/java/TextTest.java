/** Promises 1 to 5: a new object, append, clearText, errorPosition, load. */
public final class TextTest {
    private static final Check CHECK = new Check("TextTest");

    private static void position(String text, int want) {
        PolytopeDescent x = new PolytopeDescent();
        Check.type(x, text);
        CHECK.due("errorPosition of " + text, x.errorPosition(), want);
        if (want == PolytopeDescent.NONE) {
            CHECK.isTrue("load of " + text, x.load() > 0);
        } else {
            String before = Check.look(x);
            CHECK.dueState("load of " + text, x::load);
            CHECK.isTrue("a refused load changes nothing: " + text, before.equals(Check.look(x)));
        }
    }

    private static void newObject() {
        PolytopeDescent x = new PolytopeDescent();
        int[] due = {1, 0, 2, 1, 1, 0, 0};
        for (int what = 0; what < due.length; what++) {
            CHECK.due("new: about " + what, x.about(what), due[what]);
        }
        CHECK.due("new: vertex 0", x.vertex(0, 0), 0);
        CHECK.due("new: vertex 1", x.vertex(1, 0), 1);
        CHECK.due("new: factor", x.row(0, 0), 1);
        CHECK.due("new: target", x.row(0, 1), 0);
        CHECK.isTrue("new: mixture", Check.mixture(x).equals("0:100"));
        CHECK.due("new: text is empty", x.clearText(), 0);
        CHECK.dueState("new: undo", x::undo);
        CHECK.dueState("new: restore 0", () -> x.restore(0));
        CHECK.dueState("new: restore 1", () -> x.restore(1));
        CHECK.due("new: value", x.value(), 0);
        CHECK.due("NONE", PolytopeDescent.NONE, -9);
    }

    private static void appendAndClear() {
        PolytopeDescent x = new PolytopeDescent();
        CHECK.dueArgument("append -1", () -> x.append(-1));
        CHECK.dueArgument("append 256", () -> x.append(256));
        CHECK.dueArgument("append of the smallest int", () -> x.append(Integer.MIN_VALUE));
        CHECK.due("append 0", x.append(0), 1);
        CHECK.due("append 255", x.append(255), 2);
        for (int n = 3; n <= 90; n++) {
            CHECK.due("append " + n, x.append('P'), n);
        }
        CHECK.dueState("append of the 91st", () -> x.append('P'));
        CHECK.dueArgument("append out of range to a full text", () -> x.append(256));
        CHECK.due("clearText", x.clearText(), 90);
        CHECK.due("clearText again", x.clearText(), 0);
        CHECK.due("append after clearText", x.append('P'), 1);
    }

    private static void goodTexts() {
        position("P1s1r+1+00", PolytopeDescent.NONE);
        position("P1s9r-0-00", PolytopeDescent.NONE);
        position("P4b9999r+1-2+3-4+99r+1-2+3-4+99r+1-2+3-4+99r+1-2+3-4-99", PolytopeDescent.NONE);
        position("P3c5r+0+0+0+00", PolytopeDescent.NONE);
        position("P2p00r+0+0+00", PolytopeDescent.NONE);
        position("P1l10r+1+00", PolytopeDescent.NONE);
        position("P4l8" + "0000" + "0001" + "0010" + "0011" + "0100" + "0101" + "0110" + "9999" + "r+0+0+0+0+00".repeat(4),
            PolytopeDescent.NONE);
        position("P1l801234567r+1+00", PolytopeDescent.NONE);
    }

    private static void faultyTexts() {
        position("", 0);
        position("p1s1r+1+00", 0);
        position("P", 1);
        position("P0s1r+1+00", 1);
        position("P5s1r+1+00", 1);
        position("P1", 2);
        position("P1x1r+1+00", 2);
        position("P1S1r+1+00", 2);
        position("P1s", 3);
        position("P1s0r+1+00", 3);
        position("P2b1", 4);
        position("P2b10r+1+1+00", 4);
        position("P1c0", 3);
        position("P3p012", 6);
        position("P3p01r", 5);
        position("P1l0", 3);
        position("P1l9", 3);
        position("P1l3012", 7);
        position("P2l3011201r", 9);
        position("P2l30112", 8);
        position("P2l2" + "0101" + "r+1+1+00", 7);
        position("P1l3" + "010" + "r+1+00", 6);
        position("P1s1", 4);
        position("P1s1R+1+00", 4);
        position("P1s1r", 5);
        position("P1s1r1", 5);
        position("P1s1r+", 6);
        position("P1s1r++", 6);
        position("P1s1r+1", 7);
        position("P1s1r+1000", 7);
        position("P1s1r+1+", 8);
        position("P1s1r+1+0", 9);
        position("P1s1r+1+0+", 9);
        position("P1s1r+1+000", 10);
        position("P1s1r+1+00 ", 10);
        position("P2s1r+1+00r", 9);
        position("P1s1r+1+00r", 11);
        position("P1s1" + "r+1+00".repeat(4) + "r", 28);
        position("P1s1" + "r+1+00".repeat(5), 28);
        position(" P1s1r+1+00", 0);
        // The signs just below '0' and just above '9' are no digits anywhere.
        position("P1s:r+1+00", 3);
        position("P1p:r+1+00", 3);
        position("P1p/r+1+00", 3);
        position("P2b1:r+1+1+00", 4);
        position("P1c/r+1+00", 3);
        position("P1l1:r+1+00", 4);
        position("P1l1/r+1+00", 4);
        position("P1s1r+:+00", 6);
        position("P1s1r+/+00", 6);
        position("P1s1r+1+:0", 8);
        position("P1s1r+1+0/", 9);
    }

    private static void vertices(String text, int kind, String due) {
        PolytopeDescent x = new PolytopeDescent();
        Check.type(x, text);
        int n = x.load();
        StringBuilder all = new StringBuilder();
        for (int i = 0; i < n; i++) {
            all.append(i == 0 ? "" : " ");
            for (int j = 0; j < x.about(0); j++) {
                all.append(x.vertex(i, j));
            }
        }
        CHECK.isTrue("vertices of " + text + " are " + all + ", due are " + due, all.toString().equals(due));
        CHECK.due("kind of " + text, x.about(1), kind);
        CHECK.due("number of vertices of " + text, x.about(2), n);
    }

    private static void kinds() {
        vertices("P3s7r+1+1+1+00", 0, "000 007 070 700");
        vertices("P1s4r+1+00", 0, "0 4");
        vertices("P2b35r+1+1+00", 1, "00 05 30 35");
        vertices("P4b1111r+1+1+1+1+00", 1,
            "0000 0001 0010 0011 0100 0101 0110 0111 1000 1001 1010 1011 1100 1101 1110 1111");
        vertices("P2c3r+1+1+00", 2, "-30 0-3 03 30");
        vertices("P1c3r+1+00", 2, "-3 3");
        vertices("P3p123r+1+1+1+00", 3, "123 132 213 231 312 321");
        vertices("P3p300r+1+1+1+00", 3, "003 030 300");
        vertices("P4p1212r+1+1+1+1+00", 3, "1122 1212 1221 2112 2121 2211");
        vertices("P3p555r+1+1+1+00", 3, "555");
        vertices("P1p0r+1+00", 3, "0");
        vertices("P2l490112009r+1+1+00", 4, "09 11 20 90");
        vertices("P1l17r+1+00", 4, "7");
        PolytopeDescent x = Check.loaded("P4p9876r+1+1+1+1+00");
        CHECK.due("four different numbers have 24 orders", x.about(2), 24);
        CHECK.due("the last order's first number", x.vertex(23, 0), 9);
    }

    private static void loadStartsAnew() {
        PolytopeDescent x = Check.loaded("P2b35r+1-2+07r-3+4-08");
        CHECK.due("target of row 0", x.row(0, 2), 7);
        CHECK.due("factor of row 1", x.row(1, 0), -3);
        CHECK.due("target of row 1", x.row(1, 2), -8);
        x.transfer(0, 3, 40);
        x.step(2);
        x.setRow(0, 0, 9);
        x.save(0);
        x.save(1);
        CHECK.due("load answers the number of vertices", x.load(), 4);
        CHECK.isTrue("load gives all units to vertex 0", Check.mixture(x).equals("0:100"));
        CHECK.due("load: steps", x.about(5), 0);
        CHECK.due("load: drops", x.about(6), 0);
        CHECK.due("load: rows are those of the text", x.row(0, 0), 1);
        CHECK.dueState("load forgets the states", x::undo);
        CHECK.dueState("load empties slot 0", () -> x.restore(0));
        CHECK.dueState("load empties slot 1", () -> x.restore(1));
        CHECK.due("load keeps the text", x.clearText(), "P2b35r+1-2+07r-3+4-08".length());
        CHECK.dueState("load of an empty text", x::load);
        CHECK.due("a shorter space forgets old factors", reloadedSlope(), 2 * -100);
    }

    /** Factors and coordinates of an earlier, larger text must not shine through. */
    private static long reloadedSlope() {
        PolytopeDescent x = Check.loaded("P4b9999r+9+9+9+9+99r+9+9+9+9+99");
        x.reset(15);
        Check.type(x, "P1s1r+1+01");
        x.load();
        return x.slope(0, false);
    }

    private static void refusedLoadKeepsMemory() {
        PolytopeDescent x = Check.loaded("P1s5r+1+03");
        x.step(0);
        x.save(1);
        x.append('r');
        CHECK.dueState("load of a spoiled text", x::load);
        CHECK.due("a refused load keeps the slots", x.restore(1), 2);
        x.step(0);
        CHECK.dueState("load of a spoiled text again", x::load);
        CHECK.due("a refused load keeps the remembered states", x.undo(), 0);
    }

    public static void main(String[] args) {
        newObject();
        appendAndClear();
        goodTexts();
        faultyTexts();
        kinds();
        loadStartsAnew();
        refusedLoadKeepsMemory();
        CHECK.close();
    }
}
