/**
 * Least squares over a polytope without projections. The point is a mixture of vertices in whole
 * units; steps move units towards the best vertex, away from the worst atom, or from this to that.
 */
public final class PolytopeDescent {
    public static final int NONE = -9;

    private static final int MAX_D = 4;
    private static final int MAX_VERTICES = 24;
    private static final int MAX_ROWS = 4;
    private static final int ROW_LENGTH = 5;
    private static final int TARGET = 4;
    private static final int MAX_FACTOR = 9;
    private static final int MAX_TARGET = 99;
    private static final int MAX_ORACLE_FACTOR = 999;
    private static final int UNITS = 100;
    private static final int MAX_TEXT = 90;
    private static final int MAX_CODE = 255;
    private static final int MAX_REMEMBERED = 14;
    private static final int SLOTS = 2;
    private static final int MAX_STEPS = 50;
    private static final int MAX_COMMANDS = 4;
    private static final int GROUP_BASE = 10000;
    private static final int MAX_EUCLID = 1000;

    private static final int SIMPLEX = 0;
    private static final int BOX = 1;
    private static final int CROSS = 2;
    private static final int ORDERS = 3;
    private static final int LIST = 4;

    private static final int TOWARDS = 0;
    private static final int AWAY = 1;
    private static final int PAIRWISE = 2;

    private final int[] text;
    private int textLength;
    private final Reader reader;
    private final Polytope polytope;
    private final Descent descent;
    private final State state;
    private final State trial;
    private final Memory memory;
    private final State[] slots;
    private final boolean[] saved;
    private final int[] asked;
    private final long[] factors;
    private final int[] groups;

    public PolytopeDescent() {
        text = new int[MAX_TEXT];
        textLength = 0;
        reader = new Reader(text);
        polytope = new Polytope();
        asked = new int[MAX_D];
        asked[0] = 1;
        polytope.begin(1, SIMPLEX);
        polytope.build(asked);
        descent = new Descent(polytope);
        state = new State();
        state.rowCount = 1;
        state.rows[0] = 1;
        state.giveAll(0);
        trial = new State();
        memory = new Memory();
        slots = new State[SLOTS];
        for (int i = 0; i < SLOTS; i++) {
            slots[i] = new State();
        }
        saved = new boolean[SLOTS];
        factors = new long[MAX_D];
        groups = new int[MAX_COMMANDS];
    }

    // ---- text

    public int append(int c) throws IllegalArgumentException, IllegalStateException {
        requireArgument(c >= 0 && c <= MAX_CODE);
        if (textLength < 0 || textLength >= MAX_TEXT) {
            throw new IllegalStateException("the text is full");
        }
        text[textLength] = c;
        textLength++;
        return textLength;
    }

    public int clearText() {
        int before = textLength;
        textLength = 0;
        return before;
    }

    public int errorPosition() {
        return reader.read(textLength);
    }

    public int load() throws IllegalStateException {
        if (reader.read(textLength) != NONE) {
            throw new IllegalStateException("the text has an error");
        }
        polytope.copyFrom(reader.polytope);
        state.copyRowsFrom(reader.rows);
        state.giveAll(0);
        memory.forget();
        for (int i = 0; i < SLOTS; i++) {
            saved[i] = false;
        }
        return polytope.count;
    }

    // ---- what there is

    public int about(int what) throws IllegalArgumentException {
        switch (what) {
            case 0:
                return polytope.d;
            case 1:
                return polytope.kind;
            case 2:
                return polytope.count;
            case 3:
                return state.rowCount;
            case 4:
                return state.atomCount;
            case 5:
                return state.steps;
            case 6:
                return state.drops;
            default:
                throw new IllegalArgumentException("there is no such number");
        }
    }

    public int vertex(int i, int j) throws IndexOutOfBoundsException {
        requireIndex(i, polytope.count);
        requireIndex(j, polytope.d);
        return polytope.coordinate(i, j);
    }

    public int row(int k, int j) throws IndexOutOfBoundsException {
        requireIndex(k, state.rowCount);
        requireIndex(j, polytope.d + 1);
        return state.rows[placeInRows(k, j)];
    }

    public int atom(int i, int what) throws IndexOutOfBoundsException, IllegalArgumentException {
        requireIndex(i, state.atomCount);
        requireArgument(what == 0 || what == 1);
        return what == 0 ? state.vertices[i] : state.units[i];
    }

    public int find(int a, int b, int c, int d) {
        asked[0] = a;
        asked[1] = b;
        asked[2] = c;
        asked[3] = d;
        return polytope.placeOf(asked);
    }

    // ---- actions

    public int step(int kind) throws IllegalArgumentException, IllegalStateException {
        requireArgument(isStepKind(kind));
        if (!descent.isPossible(state, kind)) {
            throw new IllegalStateException("there is only one atom");
        }
        memory.remember(state);
        return descent.makeStep(state, kind);
    }

    public int run(int kind, int n) throws IllegalArgumentException {
        requireArgument(isStepKind(kind) && n >= 1 && n <= MAX_STEPS);
        memory.remember(state);
        int made = 0;
        boolean moving = true;
        while (made < n && moving && descent.gapOf(state) != 0 && descent.isPossible(state, kind)) {
            moving = descent.makeStep(state, kind) > 0;
            made++;
        }
        return made;
    }

    public int transfer(int i, int v, int units) throws IndexOutOfBoundsException, IllegalArgumentException {
        requireIndex(i, state.atomCount);
        requireIndex(v, polytope.count);
        requireArgument(units >= 0 && units <= state.units[i]);
        memory.remember(state);
        state.moveUnits(i, v, units);
        return state.atomCount;
    }

    public int reset(int v) throws IndexOutOfBoundsException {
        requireIndex(v, polytope.count);
        memory.remember(state);
        int before = state.atomCount;
        state.giveAll(v);
        return before;
    }

    public int setRow(int k, int j, int v) throws IndexOutOfBoundsException, IllegalArgumentException {
        requireIndex(k, state.rowCount);
        requireIndex(j, polytope.d + 1);
        int limit = j == polytope.d ? MAX_TARGET : MAX_FACTOR;
        requireArgument(v >= -limit && v <= limit);
        memory.remember(state);
        int place = placeInRows(k, j);
        int before = state.rows[place];
        state.rows[place] = v;
        return before;
    }

    public int undo() throws IllegalStateException {
        if (memory.count < 1) {
            throw new IllegalStateException("no state is remembered");
        }
        memory.takeBack(state);
        return memory.count;
    }

    // ---- the mixture

    public int point(int j) throws IndexOutOfBoundsException {
        requireIndex(j, polytope.d);
        descent.measure(state);
        return descent.x[j];
    }

    public int residual(int k) throws IndexOutOfBoundsException {
        requireIndex(k, state.rowCount);
        descent.measure(state);
        return descent.residuals[k];
    }

    public long slope(int j, boolean ofVertex) throws IndexOutOfBoundsException {
        requireIndex(j, ofVertex ? polytope.count : polytope.d);
        descent.measure(state);
        return ofVertex ? polytope.product(j, descent.slopes) : descent.slopes[j];
    }

    public long value() {
        return descent.valueOf(state);
    }

    public long gap() {
        return descent.gapOf(state);
    }

    public int best() {
        return descent.bestOf(state);
    }

    public int worst() {
        descent.measure(state);
        return descent.steepestAtom(state);
    }

    public int face() {
        int lowest = descent.bestOf(state);
        long smallest = polytope.product(lowest, descent.slopes);
        int set = 0;
        for (int i = 0; i < polytope.count; i++) {
            if (polytope.product(i, descent.slopes) == smallest) {
                set |= 1 << i;
            }
        }
        return set;
    }

    public int oracle(int a, int b, int c, int d) throws IllegalArgumentException {
        requireArgument(isOracleFactor(a) && isOracleFactor(b) && isOracleFactor(c) && isOracleFactor(d));
        factors[0] = a;
        factors[1] = b;
        factors[2] = c;
        factors[3] = d;
        return polytope.lowest(factors);
    }

    public int bestAlone() {
        int found = 0;
        long smallest = descent.valueAlone(state, 0);
        for (int i = 1; i < polytope.count; i++) {
            long here = descent.valueAlone(state, i);
            if (here < smallest) {
                smallest = here;
                found = i;
            }
        }
        return found;
    }

    public long search(int v, int w, boolean upper) throws IndexOutOfBoundsException {
        requireIndex(v, polytope.count);
        requireIndex(w, polytope.count);
        descent.measureEdge(state, v, w);
        long numerator = Math.min(Math.max(-descent.pull, 0L), descent.bend);
        // On a line without bend every point has the same value, and 0 is the smallest share.
        long denominator = descent.bend > 0 ? descent.bend : 1;
        long divisor = greatestDivisor(numerator, denominator);
        if (divisor < 1) {
            return upper ? numerator : denominator;
        }
        return (upper ? numerator : denominator) / divisor;
    }

    public long preview(int kind, int what) throws IllegalArgumentException {
        requireArgument(isStepKind(kind) && what >= 0 && what <= 3);
        if (!descent.isPossible(state, kind)) {
            return NONE;
        }
        trial.copyFrom(state);
        int moved = descent.makeStep(trial, kind);
        switch (what) {
            case 0:
                return moved;
            case 1:
                return descent.valueOf(trial);
            case 2:
                return descent.gapOf(trial);
            default:
                return trial.atomCount;
        }
    }

    public int stepsUntil(int kind, long limit) throws IllegalArgumentException {
        requireArgument(isStepKind(kind) && limit >= 0);
        trial.copyFrom(state);
        for (int made = 0; made <= MAX_STEPS; made++) {
            if (descent.gapOf(trial) <= limit) {
                return made;
            }
            if (!descent.isPossible(trial, kind)) {
                return NONE;
            }
            if (descent.makeStep(trial, kind) == 0) {
                // A step that moves nothing leaves the mixture, and so every later step, as it is.
                return NONE;
            }
        }
        return NONE;
    }

    // ---- scripts, simulations

    public int runScript(int n, long script) throws IllegalArgumentException {
        requireArgument(n >= 1 && n <= MAX_COMMANDS && script >= 0);
        long left = script;
        for (int i = n - 1; i >= 0; i--) {
            groups[i] = (int) (left % GROUP_BASE);
            left = left / GROUP_BASE;
        }
        requireArgument(left == 0);
        trial.copyFrom(state);
        for (int i = 0; i < n; i++) {
            if (!obey(groups[i])) {
                return i;
            }
        }
        return NONE;
    }

    public long simulate(long seed, int m) throws IllegalArgumentException {
        requireArgument(m >= 1 && m <= MAX_STEPS);
        trial.copyFrom(state);
        long x = seed;
        for (int i = 0; i < m; i++) {
            x = x * 6364136223846793005L + 1442695040888963407L;
            playRound((int) (x >>> 33));
        }
        return descent.gapOf(trial);
    }

    // ---- save slots

    public int save(int slot) throws IndexOutOfBoundsException {
        requireIndex(slot, SLOTS);
        slots[slot].copyFrom(state);
        saved[slot] = true;
        return state.atomCount;
    }

    public int restore(int slot) throws IndexOutOfBoundsException, IllegalStateException {
        requireIndex(slot, SLOTS);
        if (!saved[slot]) {
            throw new IllegalStateException("nothing has been saved in the slot");
        }
        state.copyFrom(slots[slot]);
        memory.forget();
        return state.atomCount;
    }

    // ---- helpers of the face

    private static void requireIndex(int i, int count) {
        if (i < 0 || i >= count) {
            throw new IndexOutOfBoundsException("there is no such thing");
        }
    }

    private static void requireArgument(boolean inRange) {
        if (!inRange) {
            throw new IllegalArgumentException("an argument is out of range");
        }
    }

    private static boolean isStepKind(int kind) {
        return kind >= TOWARDS && kind <= PAIRWISE;
    }

    private static boolean isOracleFactor(int factor) {
        return factor >= -MAX_ORACLE_FACTOR && factor <= MAX_ORACLE_FACTOR;
    }

    private static long greatestDivisor(long a, long b) {
        long p = a;
        long q = b;
        for (int i = 0; i < MAX_EUCLID && q != 0; i++) {
            long rest = p % q;
            p = q;
            q = rest;
        }
        return p;
    }

    /** The face counts the target behind the factors that there are; inside it has one fixed column. */
    private int placeInRows(int k, int j) {
        return k * ROW_LENGTH + (j == polytope.d ? TARGET : j);
    }

    private boolean obey(int group) {
        int second = group / 100 % 10;
        int last = group % 100;
        switch (group / 1000) {
            case 1:
                return makeTrialSteps(second, last);
            case 2:
                return second == 0 && resetTrial(last);
            case 3:
                return moveTrialUnit(second, last);
            case 4:
                return second == 0 && trial.atomCount == last;
            case 5:
                return second == 0 && descent.bestOf(trial) == last;
            case 6:
                return second < trial.atomCount && trial.units[second] >= last;
            case 7:
                return second == 0 && last == 0 && descent.gapOf(trial) == 0;
            case 8:
                return second == 0 && trial.drops == last;
            default:
                return false;
        }
    }

    private boolean makeTrialSteps(int kind, int n) {
        if (!isStepKind(kind) || n < 1 || n > MAX_STEPS) {
            return false;
        }
        for (int i = 0; i < n; i++) {
            if (!descent.isPossible(trial, kind)) {
                return false;
            }
            descent.makeStep(trial, kind);
        }
        return true;
    }

    private boolean resetTrial(int v) {
        if (v >= polytope.count) {
            return false;
        }
        trial.giveAll(v);
        return true;
    }

    private boolean moveTrialUnit(int i, int v) {
        if (i >= trial.atomCount || v >= polytope.count) {
            return false;
        }
        trial.moveUnits(i, v, 1);
        return true;
    }

    private void playRound(int r) {
        int kind = r % 4;
        if (isStepKind(kind)) {
            if (descent.isPossible(trial, kind)) {
                descent.makeStep(trial, kind);
            }
            return;
        }
        if (r < 0 || trial.atomCount < 1 || polytope.count < 1) {
            return;
        }
        int i = r / 4 % trial.atomCount;
        int range = trial.units[i] + 1;
        int moved = range > 0 ? r / 128 % range : 0;
        trial.moveUnits(i, r / 4096 % polytope.count, moved);
    }

    /** The vertices in lexicographic order. Coordinates beyond d are kept as 0, so four always compare. */
    private static final class Polytope {
        int d;
        int kind;
        int count;
        private final int[] coordinates = new int[MAX_VERTICES * MAX_D];
        private final int[] corner = new int[MAX_D];
        private final int[] pool = new int[MAX_D];

        void begin(int newD, int newKind) {
            d = newD;
            kind = newKind;
            count = 0;
        }

        void copyFrom(Polytope other) {
            d = other.d;
            kind = other.kind;
            count = other.count;
            System.arraycopy(other.coordinates, 0, coordinates, 0, coordinates.length);
        }

        int coordinate(int i, int j) {
            if (i < 0 || i >= MAX_VERTICES || j < 0 || j >= MAX_D) {
                return 0;
            }
            return coordinates[i * MAX_D + j];
        }

        /** False, and nothing added, if the point is there already. */
        boolean add(int[] point) {
            int place = 0;
            while (place < count && compareAt(place, point) < 0) {
                place++;
            }
            if (count >= MAX_VERTICES || place < count && compareAt(place, point) == 0) {
                return false;
            }
            for (int i = count * MAX_D - 1; i >= place * MAX_D; i--) {
                coordinates[i + MAX_D] = coordinates[i];
            }
            for (int j = 0; j < MAX_D; j++) {
                coordinates[place * MAX_D + j] = point[j];
            }
            count++;
            return true;
        }

        int placeOf(int[] point) {
            for (int i = 0; i < count; i++) {
                if (compareAt(i, point) == 0) {
                    return i;
                }
            }
            return NONE;
        }

        private int compareAt(int i, int[] point) {
            for (int j = 0; j < MAX_D; j++) {
                int here = coordinate(i, j);
                if (here != point[j]) {
                    return here < point[j] ? -1 : 1;
                }
            }
            return 0;
        }

        private void clearCorner() {
            for (int j = 0; j < MAX_D; j++) {
                corner[j] = 0;
            }
        }

        /** Adds the vertices of all kinds but the list; the numbers are those behind the kind's letter. */
        void build(int[] numbers) {
            switch (kind) {
                case SIMPLEX:
                    clearCorner();
                    add(corner);
                    addOnAxes(numbers[0]);
                    break;
                case BOX:
                    addBox(numbers);
                    break;
                case CROSS:
                    addOnAxes(numbers[0]);
                    addOnAxes(-numbers[0]);
                    break;
                case ORDERS:
                    addOrders(numbers);
                    break;
                default:
                    break;
            }
        }

        private void addOnAxes(int size) {
            for (int j = 0; j < d && j < MAX_D; j++) {
                clearCorner();
                corner[j] = size;
                add(corner);
            }
        }

        private void addBox(int[] sizes) {
            for (int set = 0; set < 1 << d; set++) {
                clearCorner();
                for (int j = 0; j < d && j < MAX_D; j++) {
                    corner[j] = (set >> j & 1) * sizes[j];
                }
                add(corner);
            }
        }

        private void addOrders(int[] numbers) {
            int orders = 1;
            for (int n = 2; n <= d; n++) {
                orders *= n;
            }
            for (int code = 0; code < orders; code++) {
                arrange(numbers, code);
                add(corner);
            }
        }

        /** The code's digits, in the bases d, d - 1, .., 1, choose among the numbers that are left. */
        private void arrange(int[] numbers, int code) {
            clearCorner();
            System.arraycopy(numbers, 0, pool, 0, MAX_D);
            int rest = code;
            for (int j = 0; j < d && j < MAX_D; j++) {
                int left = d - j;
                int chosen = rest % left;
                rest = rest / left;
                corner[j] = pool[chosen];
                pool[chosen] = pool[left - 1];
            }
        }

        long product(int i, long[] weights) {
            long sum = 0;
            for (int j = 0; j < MAX_D; j++) {
                sum += coordinate(i, j) * weights[j];
            }
            return sum;
        }

        int lowest(long[] weights) {
            int found = 0;
            long smallest = product(0, weights);
            for (int i = 1; i < count; i++) {
                long here = product(i, weights);
                if (here < smallest) {
                    smallest = here;
                    found = i;
                }
            }
            return found;
        }
    }

    /** What actions change: the rows, the mixture and the counts. Factors beyond d are kept as 0. */
    private static final class State {
        int rowCount;
        final int[] rows = new int[MAX_ROWS * ROW_LENGTH];
        int atomCount;
        final int[] vertices = new int[MAX_VERTICES];
        final int[] units = new int[MAX_VERTICES];
        int steps;
        int drops;

        void copyFrom(State other) {
            copyRowsFrom(other);
            atomCount = other.atomCount;
            System.arraycopy(other.vertices, 0, vertices, 0, MAX_VERTICES);
            System.arraycopy(other.units, 0, units, 0, MAX_VERTICES);
            steps = other.steps;
            drops = other.drops;
        }

        void copyRowsFrom(State other) {
            rowCount = other.rowCount;
            System.arraycopy(other.rows, 0, rows, 0, rows.length);
        }

        void clearRows() {
            rowCount = 0;
            for (int i = 0; i < rows.length; i++) {
                rows[i] = 0;
            }
        }

        int target(int k) {
            return rows[k * ROW_LENGTH + TARGET];
        }

        int factor(int k, int j) {
            return rows[k * ROW_LENGTH + j];
        }

        int rowTimes(int k, int[] vector) {
            int sum = 0;
            for (int j = 0; j < MAX_D; j++) {
                sum += rows[k * ROW_LENGTH + j] * vector[j];
            }
            return sum;
        }

        /** The counts start anew with the mixture: so reset and load want it. */
        void giveAll(int v) {
            atomCount = 1;
            vertices[0] = v;
            units[0] = UNITS;
            steps = 0;
            drops = 0;
        }

        void give(int v, int n) {
            if (n < 1) {
                return;
            }
            for (int i = 0; i < atomCount; i++) {
                if (vertices[i] == v) {
                    units[i] += n;
                    return;
                }
            }
            if (atomCount < MAX_VERTICES) {
                vertices[atomCount] = v;
                units[atomCount] = n;
                atomCount++;
            }
        }

        void moveUnits(int i, int v, int n) {
            if (vertices[i] == v) {
                return;
            }
            units[i] -= n;
            give(v, n);
            removeEmpty();
        }

        int removeEmpty() {
            int kept = 0;
            for (int i = 0; i < atomCount; i++) {
                if (units[i] > 0) {
                    vertices[kept] = vertices[i];
                    units[kept] = units[i];
                    kept++;
                }
            }
            int removed = atomCount - kept;
            atomCount = kept;
            return removed;
        }
    }

    /** Measures a state at its point and makes steps; the rows for this are made once. */
    private static final class Descent {
        private final Polytope polytope;
        final int[] x = new int[MAX_D];
        final int[] residuals = new int[MAX_ROWS];
        final long[] slopes = new long[MAX_D];
        private final int[] move = new int[MAX_D];
        private final int[] remainders = new int[MAX_VERTICES];
        /** The value at x + g * move is the value at x + 2 * g * pull + g * g * bend. */
        long pull;
        long bend;

        Descent(Polytope polytope) {
            this.polytope = polytope;
        }

        void measure(State s) {
            for (int j = 0; j < MAX_D; j++) {
                int sum = 0;
                for (int i = 0; i < s.atomCount; i++) {
                    sum += s.units[i] * polytope.coordinate(s.vertices[i], j);
                }
                x[j] = sum;
            }
            measureResiduals(s);
            for (int j = 0; j < MAX_D; j++) {
                long sum = 0;
                for (int k = 0; k < s.rowCount; k++) {
                    sum += (long) residuals[k] * s.factor(k, j);
                }
                slopes[j] = 2 * sum;
            }
        }

        private void measureResiduals(State s) {
            for (int k = 0; k < s.rowCount; k++) {
                residuals[k] = s.rowTimes(k, x) - UNITS * s.target(k);
            }
        }

        private long sumOfSquares(State s) {
            long sum = 0;
            for (int k = 0; k < s.rowCount; k++) {
                sum += (long) residuals[k] * residuals[k];
            }
            return sum;
        }

        long valueOf(State s) {
            measure(s);
            return sumOfSquares(s);
        }

        long valueAlone(State s, int v) {
            standAt(v);
            measureResiduals(s);
            return sumOfSquares(s);
        }

        private void standAt(int v) {
            for (int j = 0; j < MAX_D; j++) {
                x[j] = UNITS * polytope.coordinate(v, j);
            }
        }

        long gapOf(State s) {
            int lowest = bestOf(s);
            long sum = 0;
            for (int j = 0; j < MAX_D; j++) {
                sum += x[j] * slopes[j];
            }
            return sum - UNITS * polytope.product(lowest, slopes);
        }

        int bestOf(State s) {
            measure(s);
            return polytope.lowest(slopes);
        }

        /** The worst atom of a state that has just been measured. */
        int steepestAtom(State s) {
            int found = 0;
            long greatest = polytope.product(s.vertices[0], slopes);
            for (int i = 1; i < s.atomCount; i++) {
                long here = polytope.product(s.vertices[i], slopes);
                if (here > greatest) {
                    greatest = here;
                    found = i;
                }
            }
            return found;
        }

        boolean isPossible(State s, int kind) {
            return kind != AWAY || s.atomCount > 1;
        }

        int makeStep(State s, int kind) {
            measure(s);
            int lowest = polytope.lowest(slopes);
            int steepest = steepestAtom(s);
            int moved;
            if (kind == TOWARDS) {
                moved = moveTowards(s, lowest);
            } else if (kind == AWAY) {
                moved = moveAway(s, steepest);
            } else {
                moved = movePairwise(s, steepest, lowest);
            }
            s.steps++;
            s.drops += s.removeEmpty();
            return moved;
        }

        private int moveTowards(State s, int v) {
            for (int j = 0; j < MAX_D; j++) {
                move[j] = UNITS * polytope.coordinate(v, j) - x[j];
            }
            measureLine(s);
            int t = lowestOnLine(UNITS, UNITS);
            scaleUnits(s, UNITS - t, UNITS, NONE);
            s.give(v, t);
            return t;
        }

        private int moveAway(State s, int atom) {
            int held = s.units[atom];
            int rest = UNITS - held;
            for (int j = 0; j < MAX_D; j++) {
                move[j] = x[j] - UNITS * polytope.coordinate(s.vertices[atom], j);
            }
            measureLine(s);
            int t = lowestOnLine(rest, held);
            scaleUnits(s, rest + t, rest, atom);
            s.units[atom] -= t;
            return t;
        }

        private int movePairwise(State s, int atom, int v) {
            setMove(s.vertices[atom], v, 1);
            measureLine(s);
            int t = lowestOnLine(1, s.units[atom]);
            s.units[atom] -= t;
            s.give(v, t);
            return t;
        }

        private void setMove(int from, int to, int scale) {
            for (int j = 0; j < MAX_D; j++) {
                move[j] = scale * (polytope.coordinate(to, j) - polytope.coordinate(from, j));
            }
        }

        /** Leaves pull and bend of the line from one vertex (share 0) to another (share 1). */
        void measureEdge(State s, int from, int to) {
            standAt(from);
            measureResiduals(s);
            setMove(from, to, UNITS);
            measureLine(s);
        }

        private void measureLine(State s) {
            pull = 0;
            bend = 0;
            for (int k = 0; k < s.rowCount; k++) {
                long along = s.rowTimes(k, move);
                pull += along * residuals[k];
                bend += along * along;
            }
        }

        /** The smallest t from 0 to limit for which the value at x + (t / scale) * move is smallest. */
        private int lowestOnLine(int scale, int limit) {
            if (bend <= 0 || pull >= 0) {
                return 0;
            }
            // The minimum lies at -scale * pull / bend; this is the nearest whole number, a half going down.
            long nearest = (-2 * scale * pull + bend - 1) / (2 * bend);
            return (int) Math.min(nearest, limit);
        }

        /** Multiplies the units of all atoms but one by upper / lower, rounded as the document says. */
        private void scaleUnits(State s, int upper, int lower, int except) {
            if (lower < 1) {
                return;
            }
            int lost = 0;
            for (int i = 0; i < s.atomCount; i++) {
                remainders[i] = NONE;
                if (i != except) {
                    int product = s.units[i] * upper;
                    s.units[i] = product / lower;
                    remainders[i] = product % lower;
                    lost += remainders[i];
                }
            }
            int missing = lost / lower;
            for (int n = 0; n < missing; n++) {
                int i = greatestRemainder(s.atomCount);
                s.units[i]++;
                remainders[i] = NONE;
            }
        }

        private int greatestRemainder(int count) {
            int found = 0;
            for (int i = 1; i < count; i++) {
                if (remainders[i] > remainders[found]) {
                    found = i;
                }
            }
            return found;
        }
    }

    /** A ring of remembered states: a new one takes the place of the oldest. */
    private static final class Memory {
        int count;
        private int next;
        private final State[] states;

        Memory() {
            states = new State[MAX_REMEMBERED];
            for (int i = 0; i < MAX_REMEMBERED; i++) {
                states[i] = new State();
            }
        }

        void remember(State s) {
            states[next].copyFrom(s);
            next = (next + 1) % MAX_REMEMBERED;
            count = Math.min(count + 1, MAX_REMEMBERED);
        }

        void takeBack(State s) {
            if (count < 1) {
                return;
            }
            next = (next + MAX_REMEMBERED - 1) % MAX_REMEMBERED;
            count--;
            s.copyFrom(states[next]);
        }

        void forget() {
            count = 0;
            next = 0;
        }
    }

    /** Reads the text into a polytope and rows of its own, so that a faulty text changes nothing. */
    private static final class Reader {
        private final int[] text;
        private int length;
        private int position;
        private final int[] point = new int[MAX_D];
        final Polytope polytope = new Polytope();
        final State rows = new State();

        Reader(int[] text) {
            this.text = text;
        }

        /** The error position, or NONE. Each part stops at the first character that is not allowed. */
        int read(int textLength) {
            length = Math.min(textLength, text.length);
            position = 0;
            boolean good = takeSign('P') && readPolytope() && readRows();
            return good ? NONE : position;
        }

        private boolean takeSign(int sign) {
            if (position >= length || text[position] != sign) {
                return false;
            }
            position++;
            return true;
        }

        private int takeDigit(int low, int high) {
            if (position >= length) {
                return NONE;
            }
            int digit = text[position] - '0';
            if (digit < low || digit > high) {
                return NONE;
            }
            position++;
            return digit;
        }

        private int takeKind() {
            if (takeSign('s')) {
                return SIMPLEX;
            }
            if (takeSign('b')) {
                return BOX;
            }
            if (takeSign('c')) {
                return CROSS;
            }
            if (takeSign('p')) {
                return ORDERS;
            }
            return takeSign('l') ? LIST : NONE;
        }

        private boolean readPolytope() {
            int d = takeDigit(1, MAX_D);
            if (d == NONE) {
                return false;
            }
            int kind = takeKind();
            polytope.begin(d, kind);
            if (kind == NONE) {
                return false;
            }
            if (kind == LIST) {
                return readPoints(d);
            }
            int n = kind == SIMPLEX || kind == CROSS ? 1 : d;
            if (!readNumbers(n, kind == ORDERS ? 0 : 1)) {
                return false;
            }
            polytope.build(point);
            return true;
        }

        /** Reads n digits into the point; the rest of it becomes 0. */
        private boolean readNumbers(int n, int low) {
            for (int j = 0; j < MAX_D; j++) {
                point[j] = j < n ? takeDigit(low, 9) : 0;
                if (point[j] == NONE) {
                    return false;
                }
            }
            return true;
        }

        private boolean readPoints(int d) {
            int n = takeDigit(1, 8);
            for (int i = 0; i < n; i++) {
                if (!readNumbers(d, 0)) {
                    return false;
                }
                if (!polytope.add(point)) {
                    // The fault is the last digit, which has been taken already.
                    position--;
                    return false;
                }
            }
            return n != NONE;
        }

        private boolean readRows() {
            rows.clearRows();
            while (rows.rowCount < MAX_ROWS && (rows.rowCount == 0 || position < length)) {
                if (!readRow(rows.rowCount * ROW_LENGTH)) {
                    return false;
                }
                rows.rowCount++;
            }
            return position == length;
        }

        private boolean readRow(int start) {
            if (!takeSign('r')) {
                return false;
            }
            for (int j = 0; j < polytope.d && j < MAX_D; j++) {
                if (!readSigned(start + j, 1)) {
                    return false;
                }
            }
            return readSigned(start + TARGET, 2);
        }

        private boolean readSigned(int place, int digits) {
            boolean negative = takeSign('-');
            if (!negative && !takeSign('+')) {
                return false;
            }
            int number = 0;
            for (int i = 0; i < digits; i++) {
                int digit = takeDigit(0, 9);
                if (digit == NONE) {
                    return false;
                }
                number = number * 10 + digit;
            }
            rows.rows[place] = negative ? -number : number;
            return true;
        }
    }
}
