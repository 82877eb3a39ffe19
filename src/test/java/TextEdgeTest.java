import java.util.function.Supplier;

/** The boundary cases of the section TEXT and of the promises 1 to 5; each method holds one sentence of the document. */
public final class TextEdgeTest {
    private static final Check CHECK = new Check("TextEdgeTest");
    private static final int NONE = PolytopeDescent.NONE;
    private static final String DIGITS = "0123456789";
    private static final String SIZES = "123456789";
    private static final String SIGNS = "+-";

    private static int errorOf(String text) {
        PolytopeDescent x = new PolytopeDescent();
        Check.type(x, text);
        return x.errorPosition();
    }

    private static void position(String text, int want) {
        CHECK.due("errorPosition of " + text, errorOf(text), want);
    }

    private static PolytopeDescent withText(int length, int c) {
        PolytopeDescent x = new PolytopeDescent();
        for (int i = 0; i < length; i++) {
            x.append(c);
        }
        return x;
    }

    /** "Creates the simplex, the row and the mixture that are described above." */
    private static void aNewObject() {
        PolytopeDescent x = new PolytopeDescent();
        CHECK.same("new: vertices", Check.vertices(x), "0 1");
        CHECK.same("new: state", Check.state(x), "0:100 steps 0 drops 0 rows 1 0");
        CHECK.due("new: d", x.about(0), 1);
        CHECK.due("new: kind", x.about(1), 0);
        CHECK.due("new: the empty text ends too soon", x.errorPosition(), 0);
        CHECK.due("new: text", x.clearText(), 0);
        CHECK.dueState("new: nothing to undo", x::undo);
        CHECK.dueState("new: slot 0 is empty", () -> x.restore(0));
        CHECK.dueState("new: slot 1 is empty", () -> x.restore(1));
        CHECK.dueState("new: the empty text does not load", x::load);
    }

    /** "character code, 0 to 255": both ends are taken, both neighbours are refused. */
    private static void codes() {
        PolytopeDescent x = new PolytopeDescent();
        for (int c = 0; c <= 255 && c < 90; c++) {
            CHECK.due("append of the code " + c, x.append(c), c + 1);
        }
        PolytopeDescent y = new PolytopeDescent();
        CHECK.due("append of the code 255", y.append(255), 1);
        CHECK.due("append of the code 254", y.append(254), 2);
        int[] wrong = {-1, 256, 256 + 'P', -256 + 'P', 65536 + 'P', Integer.MIN_VALUE, Integer.MAX_VALUE};
        for (int c : wrong) {
            CHECK.refused("append(" + c + ")", IllegalArgumentException.class, TextEdgeTest::busy, z -> z.append(c));
        }
    }

    /** A code whose low byte is that of a letter is not that letter: only the code itself counts. */
    private static void codesAreWhole() {
        for (int c = 0; c <= 255; c++) {
            PolytopeDescent x = new PolytopeDescent();
            x.append(c);
            CHECK.due("errorPosition behind the single code " + c, x.errorPosition(), c == 'P' ? 1 : 0);
        }
    }

    private static PolytopeDescent busy() {
        PolytopeDescent x = Check.loaded("P2b35r+1-2+07r-3+4-08");
        x.step(2);
        x.save(1);
        x.transfer(0, 3, 7);
        return x;
    }

    /** "a text buffer of at most 90 characters", "if the text already has 90 characters". */
    private static void theFullBuffer() {
        CHECK.due("the 89th character", withText(88, 'P').append('P'), 89);
        CHECK.due("the 90th character", withText(89, 'P').append('P'), 90);
        Supplier<PolytopeDescent> full = () -> withText(90, 'P');
        CHECK.refused("append of a 91st character", IllegalStateException.class, full, z -> z.append('P'));
        CHECK.refused("append of the code 0 to a full text", IllegalStateException.class, full, z -> z.append(0));
        CHECK.refused("append of the code 255 to a full text", IllegalStateException.class, full, z -> z.append(255));
        PolytopeDescent x = full.get();
        CHECK.due("a full text is emptied", x.clearText(), 90);
        CHECK.due("and is filled again", x.append('P'), 1);
    }

    /** "If several exceptions apply to a call, the one that its description names first is thrown": here the range. */
    private static void rangeBeforeFullness() {
        Supplier<PolytopeDescent> full = () -> withText(90, 'P');
        CHECK.refused("append(256) to a full text", IllegalArgumentException.class, full, z -> z.append(256));
        CHECK.refused("append(-1) to a full text", IllegalArgumentException.class, full, z -> z.append(-1));
    }

    /** "Empties the text buffer", "Returns the previous length of the text." */
    private static void clearing() {
        for (int n = 0; n <= 90; n += 15) {
            PolytopeDescent x = withText(n, 'P');
            CHECK.due("clearText of " + n, x.clearText(), n);
            CHECK.due("clearText of the empty text", x.clearText(), 0);
            CHECK.due("the empty text", x.errorPosition(), 0);
        }
        PolytopeDescent y = busy();
        String before = Check.look(y);
        y.clearText();
        CHECK.same("clearText leaves the rest", Check.look(y), before);
        CHECK.due("clearText is no action", y.undo(), 1);
    }

    /** Each place of a text takes the signs that are listed for it, and every other code is the error, at that place. */
    private static void everyCodeAtEveryPlace(String text, String... allowed) {
        CHECK.due("signs are listed for every place of " + text, allowed.length, text.length());
        position(text, NONE);
        for (int i = 0; i < text.length(); i++) {
            for (int c = 0; c <= 255; c++) {
                String changed = text.substring(0, i) + (char) c + text.substring(i + 1);
                int got = errorOf(changed);
                boolean goes = allowed[i].indexOf(c) >= 0;
                CHECK.isTrue("code " + c + " at " + i + " of " + text + " has the error position " + got,
                    goes ? got == NONE || got > i : got == i);
            }
        }
    }

    /** "The error position is the index of the first character that these rules do not allow at its place". */
    private static void places() {
        String d = "1234";
        String k = "sbcpl";
        everyCodeAtEveryPlace("P1s1r+1+00", "P", d, k, SIZES, "r", SIGNS, DIGITS, SIGNS, DIGITS, DIGITS);
        everyCodeAtEveryPlace("P2b35r+1-2-07", "P", d, k, SIZES, SIZES, "r", SIGNS, DIGITS, SIGNS, DIGITS, SIGNS, DIGITS,
            DIGITS);
        everyCodeAtEveryPlace("P1c4r-9-99r+1+01", "P", d, k, SIZES, "r", SIGNS, DIGITS, SIGNS, DIGITS, DIGITS, "r", SIGNS,
            DIGITS, SIGNS, DIGITS, DIGITS);
        everyCodeAtEveryPlace("P2p05r+1-2+07", "P", d, k, DIGITS, DIGITS, "r", SIGNS, DIGITS, SIGNS, DIGITS, SIGNS, DIGITS,
            DIGITS);
        // The last digit of the second point may not make it the first one again.
        everyCodeAtEveryPlace("P2l20912r+1-2+07", "P", d, k, "12345678", DIGITS, DIGITS, DIGITS, DIGITS, "r", SIGNS, DIGITS,
            SIGNS, DIGITS, SIGNS, DIGITS, DIGITS);
        everyCodeAtEveryPlace("P1l3048r+1+00", "P", d, k, "12345678", DIGITS, SIZES, "12356789", "r", SIGNS, DIGITS,
            SIGNS, DIGITS, DIGITS);
    }

    /** "if the text ends too soon, it is the length of the text": every beginning that is no text itself. */
    private static void beginnings(String text) {
        int head = text.indexOf('r');
        int row = 4 + 2 * (text.charAt(1) - '0');
        for (int n = 0; n <= text.length(); n++) {
            boolean whole = n > head && (n - head) % row == 0;
            position(text.substring(0, n), whole ? NONE : n);
        }
    }

    /** What was there before clearText is no part of a shorter text. */
    private static void shorterThanBefore() {
        String text = "P2l30912" + "34" + "r+1-2+07r+3+4+56";
        for (int n = 0; n < text.length(); n++) {
            PolytopeDescent x = new PolytopeDescent();
            Check.type(x, text);
            Check.type(x, text.substring(0, n));
            CHECK.due("errorPosition of " + n + " characters", x.errorPosition(), n == 18 ? NONE : n);
        }
    }

    private static void endsTooSoon() {
        beginnings("P1s1r+1+00r+1+00r+1+00r+1+00");
        beginnings("P4b9999r+1-2+3-4+99r+1-2+3-4+99r+1-2+3-4+99r+1-2+3-4-99");
        beginnings("P3c5r+0+0+0+00r-0-0-0-00");
        beginnings("P2p00r+0+0+00");
        beginnings("P4l800000001001000110100010101109999r+0+0+0+0+00r+0+0+0+0+00r+0+0+0+0+00r+0+0+0+0+00");
    }

    /** "the digit d (1 to 4)": 0 and 5 are the first that are refused. */
    private static void dimensions() {
        position("P0", 1);
        position("P1", 2);
        position("P4", 2);
        position("P5", 1);
        for (int d = 1; d <= 4; d++) {
            String row = "r" + "+1".repeat(d) + "+00";
            position("P" + d + "s1" + row, NONE);
            position("P" + d + "s1r" + "+1".repeat(d - 1) + "+00", 5 + 2 * d);
            position("P" + d + "s1r" + "+1".repeat(d + 1) + "+00", 7 + 2 * d);
            position("P" + d + "b" + "1".repeat(d) + row, NONE);
            position("P" + d + "b" + "1".repeat(d - 1) + row, 2 + d);
            position("P" + d + "b" + "1".repeat(d + 1) + row, 3 + d);
            position("P" + d + "p" + "1".repeat(d) + row, NONE);
            position("P" + d + "p" + "1".repeat(d - 1) + row, 2 + d);
            position("P" + d + "p" + "1".repeat(d + 1) + row, 3 + d);
            position("P" + d + "s11" + row, 4);
            position("P" + d + "c11" + row, 4);
        }
    }

    /** "a size r (1 to 9)", "a size u (1 to 9) for each coordinate", "a number p (0 to 9)". */
    private static void sizes() {
        position("P1s0r+1+00", 3);
        position("P1s1r+1+00", NONE);
        position("P1s9r+1+00", NONE);
        position("P1c0r+1+00", 3);
        position("P1c1r+1+00", NONE);
        position("P1c9r+1+00", NONE);
        for (int j = 0; j < 4; j++) {
            for (char digit : "/0189:".toCharArray()) {
                StringBuilder four = new StringBuilder("5555");
                four.setCharAt(j, digit);
                boolean isDigit = digit >= '0' && digit <= '9';
                position("P4b" + four + "r+1+1+1+1+00", isDigit && digit != '0' ? NONE : 3 + j);
                position("P4p" + four + "r+1+1+1+1+00", isDigit ? NONE : 3 + j);
                position("P4l1" + four + "r+1+1+1+1+00", isDigit ? NONE : 4 + j);
            }
        }
    }

    /** "the number n of points (1 to 8), and n points, each given by d digits". */
    private static void numbersOfPoints() {
        position("P1l0r+1+00", 3);
        position("P1l9012345678r+1+00", 3);
        for (int n = 1; n <= 8; n++) {
            String points = DIGITS.substring(0, n);
            position("P1l" + n + points + "r+1+00", NONE);
            position("P1l" + n + points.substring(1) + "r+1+00", 3 + n);
            position("P1l" + n + points + "9r+1+00", 4 + n);
            position("P1l" + n + points, 4 + n);
        }
        position("P2l1090r+1+1+00", 6);
        position("P2l209r+1+1+00", 6);
        position("P2l2091r+1+1+00", 7);
    }

    /** "the last digit of a point that is there already is not allowed". */
    private static void repeatedPoints() {
        position("P1l255r+1+00", 5);
        position("P1l80123456" + "0", 11);
        position("P1l80123456" + "6", 11);
        position("P1l8" + "01234567", 12);
        position("P2l2" + "12" + "12", 7);
        position("P2l2" + "12" + "21r+1+1+00", NONE);
        position("P2l3" + "12" + "13" + "12", 9);
        position("P2l3" + "12" + "13" + "13", 9);
        position("P4l2" + "1234" + "1234", 11);
        position("P4l2" + "1234" + "123", 11);
        position("P4l2" + "1234" + "1235r+1+1+1+1+00", NONE);
        position("P4l2" + "1234" + "0234r+1+1+1+1+00", NONE);
        // A point of an earlier reading is not there.
        PolytopeDescent x = new PolytopeDescent();
        Check.type(x, "P1l15r+1+00");
        CHECK.due("read once", x.errorPosition(), NONE);
        CHECK.due("read twice", x.errorPosition(), NONE);
        CHECK.due("loaded", x.load(), 1);
        CHECK.due("loaded again", x.load(), 1);
        CHECK.due("read after it was loaded", x.errorPosition(), NONE);
    }

    /** "1 to 4 rows, without blanks". */
    private static void numbersOfRows() {
        position("P1s1", 4);
        for (int n = 1; n <= 4; n++) {
            String text = "P1s1" + "r+1+00".repeat(n);
            position(text, NONE);
            position(text + "r", n < 4 ? 5 + 6 * n : 28);
            position(text + " ", 4 + 6 * n);
            position(text + "P", 4 + 6 * n);
        }
        position("P1s1" + "r+1+00".repeat(5), 28);
        String good = "P2b35r+1-2+07";
        for (int i = 0; i <= good.length(); i++) {
            position(good.substring(0, i) + " " + good.substring(i), i);
        }
    }

    /** A text of 90 characters has its error where the longest text, of 84, has ended. */
    private static void longestText() {
        String longest = "P4l8" + "00000001001000110100010101109999" + "r+0+0+0+0+00".repeat(4);
        CHECK.due("the longest text", longest.length(), 84);
        position(longest, NONE);
        position(longest + "r+0+0+", 84);
        PolytopeDescent x = Check.loaded(longest);
        CHECK.due("points of the longest text", x.about(2), 8);
        CHECK.due("rows of the longest text", x.about(3), 4);
        CHECK.due("the last point", x.find(9, 9, 9, 9), 7);
    }

    /** "A row has a factor for each coordinate, -9 to 9, and a target, -99 to 99", as the text gives them. */
    private static void rowNumbers() {
        PolytopeDescent x = Check.loaded("P4s1r+9-9+0-0+99r-1+1-9+9-99r+0+0+0+0-00r+0+0+0+0+01");
        CHECK.same("rows", Check.state(x),
            "0:100 steps 0 drops 0 rows 9 -9 0 0 99 -1 1 -9 9 -99 0 0 0 0 0 0 0 0 0 1");
        PolytopeDescent y = Check.loaded("P1s1r-0-10r-5+09");
        CHECK.same("tens and ones", Check.state(y), "0:100 steps 0 drops 0 rows 0 -10 -5 9");
    }

    /** "Throws IllegalStateException if the text is not as described above", and "changes nothing" then. */
    private static void refusedLoads() {
        String[] wrong = {"", "P", "P1s1", "P5s1r+1+00", "P1s0r+1+00", "P1l255r+1+00", "P4b999", "P1s1r+1+00 ",
            "P1s1" + "r+1+00".repeat(5), "P3p123r+1+1+1+0", "P2c3r+1+1+00r"};
        for (String text : wrong) {
            Supplier<PolytopeDescent> make = () -> {
                PolytopeDescent x = busy();
                Check.type(x, text);
                return x;
            };
            CHECK.refused("load of '" + text + "'", IllegalStateException.class, make, PolytopeDescent::load);
        }
    }

    /** "errorPosition: Checks the text." It changes nothing, whatever the text is. */
    private static void checkingChangesNothing() {
        String[] texts = {"", "P4p1234r+1+1+1+1+00", "P3s9r+1+2+3+99r+1", "P1l255r+1+00"};
        for (String text : texts) {
            PolytopeDescent x = busy();
            PolytopeDescent y = busy();
            Check.type(x, text);
            Check.type(y, text);
            x.errorPosition();
            CHECK.same("errorPosition of '" + text + "' leaves the object", Check.lastLook(x), Check.lastLook(y));
        }
    }

    /** "vertex 0 has all units, and both counts are 0. Forgets all remembered states and empties both save slots." */
    private static void loadStartsAnew() {
        PolytopeDescent x = Check.loaded("P1l3059r+1+09");
        x.transfer(0, 1, 30);
        x.step(2);
        CHECK.due("a drop before", x.about(6), 1);
        x.setRow(0, 0, -9);
        x.save(0);
        x.save(1);
        CHECK.due("load", x.load(), 3);
        CHECK.same("load", Check.state(x), "0:100 steps 0 drops 0 rows 1 9");
        CHECK.dueState("load forgets the states", x::undo);
        CHECK.dueState("load empties slot 0", () -> x.restore(0));
        CHECK.dueState("load empties slot 1", () -> x.restore(1));
        CHECK.due("load keeps the text", x.load(), 3);
        CHECK.due("load keeps the whole text", x.clearText(), 13);
    }

    /** "Replaces the polytope and the rows": from large to small and back, nothing of the former is left. */
    private static void loadReplacesAll() {
        PolytopeDescent x = Check.loaded("P4p9876r+9+9+9+9+99r+8+8+8+8+88r+7+7+7+7+77r+6+6+6+6+66");
        x.reset(23);
        Check.type(x, "P1l10r+1+01");
        CHECK.due("load of one vertex", x.load(), 1);
        CHECK.same("one vertex", Check.vertices(x), "0");
        CHECK.same("one row", Check.state(x), "0:100 steps 0 drops 0 rows 1 1");
        CHECK.due("value", x.value(), 10000);
        CHECK.due("slope", x.slope(0, false), -200);
        CHECK.due("gap", x.gap(), 0);
        CHECK.due("find of what was there", x.find(9, 8, 7, 6), NONE);
        CHECK.due("find of what is there", x.find(0, 0, 0, 0), 0);
        CHECK.dueIndex("vertex 1", () -> x.vertex(1, 0));
        CHECK.dueIndex("coordinate 1", () -> x.vertex(0, 1));
        CHECK.dueIndex("row 1", () -> x.row(1, 0));
        CHECK.dueIndex("column 2", () -> x.row(0, 2));
        Check.type(x, "P4s1r+0+0+0+0+00");
        CHECK.due("load of five vertices", x.load(), 5);
        CHECK.same("no old factor", Check.state(x), "0:100 steps 0 drops 0 rows 0 0 0 0 0");
        CHECK.same("no old vertex", Check.vertices(x), "0000 0001 0010 0100 1000");
    }

    /** Each kind after each other kind with more coordinates: every vertex is found, and none of those that were. */
    private static void loadAfterLoad() {
        String[] large = {"P4s9", "P4b9876", "P4c9", "P4p9876", "P4l2" + "6789" + "9876"};
        String[] small = {"P1s2", "P2s2", "P1b2", "P2b23", "P3b234", "P1c2", "P2c2", "P1p2", "P2p23", "P3p234", "P1l12",
            "P2l2" + "2332"};
        for (String first : large) {
            for (String second : small) {
                reload(first + "r+1+2+3+4+05", second + "r" + "+1".repeat(second.charAt(1) - '0') + "+00");
            }
        }
    }

    private static void reload(String first, String second) {
        PolytopeDescent x = Check.loaded(first);
        int[][] former = points(x);
        Check.type(x, second);
        x.load();
        int[][] present = points(x);
        CHECK.same(second + " after " + first, Check.vertices(x), Check.vertices(Check.loaded(second)));
        for (int i = 0; i < present.length; i++) {
            int[] p = present[i];
            CHECK.due("vertex " + i + " of " + second + " after " + first, x.find(p[0], p[1], p[2], p[3]), i);
        }
        for (int[] p : former) {
            // The origin is a vertex of most kinds; no other point is one of the large and of the small polytope.
            if (p[0] != 0 || p[1] != 0 || p[2] != 0 || p[3] != 0) {
                CHECK.due("a former vertex of " + first, x.find(p[0], p[1], p[2], p[3]), NONE);
            }
        }
    }

    private static int[][] points(PolytopeDescent x) {
        int[][] all = new int[x.about(2)][4];
        for (int i = 0; i < all.length; i++) {
            for (int j = 0; j < x.about(0); j++) {
                all[i][j] = x.vertex(i, j);
            }
        }
        return all;
    }

    public static void main(String[] args) {
        aNewObject();
        codes();
        codesAreWhole();
        theFullBuffer();
        rangeBeforeFullness();
        clearing();
        places();
        endsTooSoon();
        shorterThanBefore();
        dimensions();
        sizes();
        numbersOfPoints();
        repeatedPoints();
        numbersOfRows();
        longestText();
        rowNumbers();
        refusedLoads();
        checkingChangesNothing();
        loadStartsAnew();
        loadReplacesAll();
        loadAfterLoad();
        CHECK.close();
    }
}
