import java.util.Arrays;

/** Which bits of small 32-bit functions are known, which ones matter, and what can be left out for it. */
public final class DemandedBits {
    public static final int ADD = 0;
    public static final int SUB = 1;
    public static final int MUL = 2;
    public static final int AND = 3;
    public static final int OR = 4;
    public static final int XOR = 5;
    public static final int LEFT = 0;
    public static final int RIGHT = 1;
    public static final int LOGICAL = 2;
    public static final int NONE = -1;
    public static final int FIXED = -2;

    // The kinds of values: ADD .. XOR are their own kinds, a shift is the first of the shifts and its number.
    private static final int FIRST_SHIFT = 6;
    private static final int SHIFT_LEFT = FIRST_SHIFT + LEFT;
    private static final int SHIFT_RIGHT = FIRST_SHIFT + RIGHT;
    private static final int SHIFT_LOGICAL = FIRST_SHIFT + LOGICAL;
    private static final int INPUT = 9;
    private static final int CONSTANT = 10;
    private static final int BYTE = 11;
    private static final int SHORT = 12;
    private static final int LOOP = 13;

    private static final int MOST_VALUES = 24;
    private static final int MOST_RESULTS = 4;
    private static final int MOST_ROUNDS = 50;
    private static final int INPUTS = 3;
    private static final int SIGN = 1 << 31;

    // Every pass but the last one changes a bit of a value for good, and a value has 32 of them.
    private static final int MOST_PASSES = MOST_VALUES * 32 + 1;

    private final Function function = new Function();
    private final Facts facts = new Facts();
    private final Demands demands = new Demands();
    private final Demands shorterDemands = new Demands();
    private final int[] replacements = new int[MOST_VALUES];
    private final int[] noReplacements = new int[MOST_VALUES];
    private final int[] inputs = new int[INPUTS];
    private final Course course = new Course();
    private final Course shorterCourse = new Course();
    private boolean analysed;

    public DemandedBits() {
        Arrays.fill(noReplacements, NONE);
    }

    public int input(int k) throws IllegalArgumentException, IllegalStateException {
        if (k < 0 || k >= INPUTS) {
            throw new IllegalArgumentException("no such input");
        }
        return append(INPUT, 0, 0, k);
    }

    public int constant(int c) throws IllegalStateException {
        return append(CONSTANT, 0, 0, c);
    }

    public int binary(int operation, int x, int y)
            throws IllegalArgumentException, IndexOutOfBoundsException, IllegalStateException {
        if (operation < ADD || operation > XOR) {
            throw new IllegalArgumentException("no such operation");
        }
        requireValue(x);
        requireValue(y);
        return append(operation, x, y, 0);
    }

    public int shift(int operation, int x, int distance)
            throws IllegalArgumentException, IndexOutOfBoundsException, IllegalStateException {
        if (operation < LEFT || operation > LOGICAL) {
            throw new IllegalArgumentException("no such shift");
        }
        if (distance < 0 || distance > 31) {
            throw new IllegalArgumentException("no such distance");
        }
        requireValue(x);
        return append(FIRST_SHIFT + operation, x, 0, distance);
    }

    public int extend(int x, boolean wide) throws IndexOutOfBoundsException, IllegalStateException {
        requireValue(x);
        return append(wide ? SHORT : BYTE, x, 0, 0);
    }

    public int loop(int x) throws IndexOutOfBoundsException, IllegalStateException {
        requireValue(x);
        return append(LOOP, x, function.size, 0);
    }

    public void back(int loop, int value) throws IndexOutOfBoundsException, IllegalArgumentException {
        requireValue(loop);
        requireValue(value);
        if (function.kind[loop] != LOOP) {
            throw new IllegalArgumentException("no loop");
        }
        function.y[loop] = value;
        analysed = false;
    }

    public int result(int value, int mask) throws IndexOutOfBoundsException, IllegalStateException {
        requireValue(value);
        if (function.results >= MOST_RESULTS) {
            throw new IllegalStateException("too many results");
        }
        analysed = false;
        return function.appendResult(value, mask);
    }

    public int bits(int value, int what) throws IndexOutOfBoundsException, IllegalArgumentException {
        requireValue(value);
        if (what < 0 || what > 4) {
            throw new IllegalArgumentException("no such bits");
        }
        analyse();
        switch (what) {
            case 0:
                return facts.zeros[value];
            case 1:
                return facts.ones[value];
            case 2:
                return demands.demanded[value];
            case 3:
                return width(demands.demanded[value]);
            default:
                return shorterDemands.demanded[value];
        }
    }

    public int replaced(int value) throws IndexOutOfBoundsException {
        requireValue(value);
        analyse();
        return replacements[value];
    }

    public int live() {
        analyse();
        int count = 0;
        for (int v = 0; v < function.size; v++) {
            if (shorterDemands.demanded[v] != 0) {
                count++;
            }
        }
        return count;
    }

    public int run(int rounds, int input0, int input1, int input2) throws IllegalArgumentException {
        if (rounds < 1 || rounds > MOST_ROUNDS) {
            throw new IllegalArgumentException("no such number of rounds");
        }
        analyse();
        inputs[0] = input0;
        inputs[1] = input1;
        inputs[2] = input2;
        course.follow(function, noReplacements, facts.ones, inputs, rounds);
        shorterCourse.follow(function, replacements, facts.ones, inputs, rounds);
        return countDifferences();
    }

    public int observed(int result, boolean shorter) throws IndexOutOfBoundsException {
        if (result < 0 || result >= function.results) {
            throw new IndexOutOfBoundsException("no such result");
        }
        return shorter ? shorterCourse.seen[result] : course.seen[result];
    }

    public int value(int value, boolean shorter) throws IndexOutOfBoundsException {
        requireValue(value);
        return shorter ? shorterCourse.now[value] : course.now[value];
    }

    private void requireValue(int number) {
        if (number < 0 || number >= function.size) {
            throw new IndexOutOfBoundsException("no such value");
        }
    }

    private int append(int kind, int x, int y, int number) {
        if (function.size >= MOST_VALUES) {
            throw new IllegalStateException("too many values");
        }
        analysed = false;
        return function.appendValue(kind, x, y, number);
    }

    private void analyse() {
        if (analysed) {
            return;
        }
        facts.find(function);
        demands.find(function, facts, noReplacements);
        for (int v = 0; v < function.size; v++) {
            replacements[v] = replacementOf(v);
        }
        shorterDemands.find(function, facts, replacements);
        analysed = true;
    }

    private int replacementOf(int v) {
        if (function.kind[v] == CONSTANT) {
            return NONE;
        }
        int d = demands.demanded[v];
        if ((d & ~facts.known(v)) == 0) {
            return FIXED;
        }
        return hasBitsOfX(v, d) ? function.x[v] : NONE;
    }

    private boolean hasBitsOfX(int v, int d) {
        int y = function.y[v];
        boolean constantY = function.kind[y] == CONSTANT;
        int c = function.number[y];
        switch (function.kind[v]) {
            case AND:
                return constantY && (d & ~c) == 0;
            case OR:
                return constantY && (d & c) == 0;
            case ADD:
            case SUB:
            case XOR:
                return constantY && (upTo(d) & c) == 0;
            case BYTE:
                return (d & ~0xFF) == 0;
            case SHORT:
                return (d & ~0xFFFF) == 0;
            default:
                return false;
        }
    }

    private int countDifferences() {
        int count = 0;
        for (int v = 0; v < function.size; v++) {
            if (course.now[v] != shorterCourse.now[v]) {
                count++;
            }
        }
        return count;
    }

    private static int width(int d) {
        if ((d & ~0xFF) == 0) {
            return 8;
        }
        return (d & ~0xFFFF) == 0 ? 16 : 32;
    }

    private static int upTo(int d) {
        // A shift by 32 would be one by 0.
        return d == 0 ? 0 : -1 >>> Integer.numberOfLeadingZeros(d);
    }

    private static int lowest(int count) {
        // A shift by 32 would be one by 0.
        return count >= 32 ? -1 : (1 << count) - 1;
    }

    /** The function as it was told: its values and its results. */
    private static final class Function {
        final int[] kind = new int[MOST_VALUES];
        // Where a kind has no such operand, 0 stands, which is a value as soon as there is one.
        final int[] x = new int[MOST_VALUES];
        // The second operand, or the back value of a LOOP.
        final int[] y = new int[MOST_VALUES];
        // Which input, which constant or what distance.
        final int[] number = new int[MOST_VALUES];
        final int[] resultValue = new int[MOST_RESULTS];
        final int[] resultMask = new int[MOST_RESULTS];
        int size;
        int results;

        int appendValue(int newKind, int newX, int newY, int newNumber) {
            kind[size] = newKind;
            x[size] = newX;
            y[size] = newY;
            number[size] = newNumber;
            size++;
            return size - 1;
        }

        int appendResult(int newValue, int newMask) {
            resultValue[results] = newValue;
            resultMask[results] = newMask;
            results++;
            return results - 1;
        }
    }

    /** The bits of each value that are known. */
    private static final class Facts {
        final int[] zeros = new int[MOST_VALUES];
        final int[] ones = new int[MOST_VALUES];
        private boolean changed;

        int known(int v) {
            return zeros[v] | ones[v];
        }

        void find(Function f) {
            for (int v = 0; v < f.size; v++) {
                if (f.kind[v] == LOOP) {
                    learn(v, zeros[f.x[v]], ones[f.x[v]]);
                } else {
                    workOut(f, v);
                }
            }
            changed = true;
            for (int pass = 0; changed && pass < MOST_PASSES; pass++) {
                changed = false;
                for (int v = 0; v < f.size; v++) {
                    workOut(f, v);
                }
            }
        }

        private void learn(int v, int newZeros, int newOnes) {
            if (zeros[v] != newZeros || ones[v] != newOnes) {
                changed = true;
            }
            zeros[v] = newZeros;
            ones[v] = newOnes;
        }

        private void workOut(Function f, int v) {
            int x = f.x[v];
            int y = f.y[v];
            int number = f.number[v];
            switch (f.kind[v]) {
                case CONSTANT:
                    learn(v, ~number, number);
                    break;
                case ADD:
                    learnSum(v, x, zeros[y], ones[y], 0);
                    break;
                case SUB:
                    learnSum(v, x, ones[y], zeros[y], 1);
                    break;
                case MUL:
                    learnProduct(v, x, y);
                    break;
                case AND:
                    learn(v, zeros[x] | zeros[y], ones[x] & ones[y]);
                    break;
                case OR:
                    learn(v, zeros[x] & zeros[y], ones[x] | ones[y]);
                    break;
                case XOR:
                    learn(v, zeros[x] & zeros[y] | ones[x] & ones[y], zeros[x] & ones[y] | ones[x] & zeros[y]);
                    break;
                case LOOP:
                    learn(v, zeros[v] & zeros[x] & zeros[y], ones[v] & ones[x] & ones[y]);
                    break;
                default:
                    workOutMoved(f.kind[v], v, x, number);
                    break;
            }
        }

        private void workOutMoved(int kind, int v, int x, int distance) {
            switch (kind) {
                case SHIFT_LEFT:
                    learn(v, zeros[x] << distance | ~(-1 << distance), ones[x] << distance);
                    break;
                case SHIFT_RIGHT:
                    learn(v, zeros[x] >> distance, ones[x] >> distance);
                    break;
                case SHIFT_LOGICAL:
                    learn(v, zeros[x] >>> distance | ~(-1 >>> distance), ones[x] >>> distance);
                    break;
                case BYTE:
                    learn(v, (byte) zeros[x], (byte) ones[x]);
                    break;
                case SHORT:
                    learn(v, (short) zeros[x], (short) ones[x]);
                    break;
                default:
                    learn(v, 0, 0);
                    break;
            }
        }

        private void learnSum(int v, int x, int yZeros, int yOnes, int carry) {
            // A carry is known 0 where even the greatest operands have none, known 1 where even the least have one.
            int least = ones[x] + yOnes + carry;
            int greatest = ~zeros[x] + ~yZeros + carry;
            int leastCarries = least ^ ones[x] ^ yOnes;
            int greatestCarries = greatest ^ ~zeros[x] ^ ~yZeros;
            int known = known(x) & (yZeros | yOnes) & ~(leastCarries ^ greatestCarries);
            learn(v, known & ~least, known & least);
        }

        private void learnProduct(int v, int x, int y) {
            int product = ones[x] * ones[y];
            int known = lowest(Integer.numberOfTrailingZeros(~(known(x) & known(y))));
            int lowZeros = lowest(Integer.numberOfTrailingZeros(~zeros[x]) + Integer.numberOfTrailingZeros(~zeros[y]));
            learn(v, known & ~product | lowZeros, known & product);
        }
    }

    /** The bits of each value that can matter for what is observed. */
    private static final class Demands {
        final int[] demanded = new int[MOST_VALUES];
        private boolean changed;

        void find(Function f, Facts facts, int[] replacement) {
            Arrays.fill(demanded, 0);
            for (int r = 0; r < f.results; r++) {
                demand(f.resultValue[r], f.resultMask[r]);
            }
            changed = true;
            for (int pass = 0; changed && pass < MOST_PASSES; pass++) {
                changed = false;
                for (int v = f.size - 1; v >= 0; v--) {
                    ask(f, facts, replacement[v], v);
                }
            }
        }

        private void demand(int v, int d) {
            int all = demanded[v] | d;
            if (all != demanded[v]) {
                demanded[v] = all;
                changed = true;
            }
        }

        private void ask(Function f, Facts facts, int replacement, int v) {
            int d = demanded[v];
            if (replacement == FIXED) {
                return;
            }
            if (replacement != NONE) {
                demand(replacement, d);
                return;
            }
            demand(f.x[v], askedOfX(f, facts, v, d));
            demand(f.y[v], askedOfY(f, facts, v, d));
        }

        private static int askedOfX(Function f, Facts facts, int v, int d) {
            int y = f.y[v];
            int distance = f.number[v];
            switch (f.kind[v]) {
                case ADD:
                case SUB:
                case MUL:
                    return upTo(d);
                case AND:
                    return d & ~facts.zeros[y];
                case OR:
                    return d & ~facts.ones[y];
                case XOR:
                case LOOP:
                    return d;
                case SHIFT_LEFT:
                    return d >>> distance;
                case SHIFT_RIGHT:
                    return d << distance | signIf(d & SIGN >> distance, 31);
                case SHIFT_LOGICAL:
                    return d << distance;
                case BYTE:
                    return d & lowest(7) | signIf(d & ~lowest(7), 7);
                case SHORT:
                    return d & lowest(15) | signIf(d & ~lowest(15), 15);
                default:
                    return 0;
            }
        }

        private static int askedOfY(Function f, Facts facts, int v, int d) {
            int x = f.x[v];
            int y = f.y[v];
            switch (f.kind[v]) {
                case ADD:
                case SUB:
                case MUL:
                    return upTo(d);
                case AND:
                    return d & ~(facts.zeros[x] & ~facts.zeros[y]);
                case OR:
                    return d & ~(facts.ones[x] & ~facts.ones[y]);
                case XOR:
                case LOOP:
                    return d;
                default:
                    return 0;
            }
        }

        private static int signIf(int copies, int sign) {
            return copies == 0 ? 0 : 1 << sign;
        }
    }

    /** The latest run of one of the two functions; what was made behind it is 0 here. */
    private static final class Course {
        final int[] now = new int[MOST_VALUES];
        final int[] seen = new int[MOST_RESULTS];
        private final int[] before = new int[MOST_VALUES];

        void follow(Function f, int[] replacement, int[] fixed, int[] inputs, int rounds) {
            for (int round = 0; round < rounds; round++) {
                // A back value may be made before its loop, and then has its new value already.
                System.arraycopy(now, 0, before, 0, f.size);
                for (int v = 0; v < f.size; v++) {
                    if (replacement[v] == FIXED) {
                        now[v] = fixed[v];
                    } else if (replacement[v] != NONE) {
                        now[v] = now[replacement[v]];
                    } else if (f.kind[v] == LOOP) {
                        now[v] = round == 0 ? now[f.x[v]] : before[f.y[v]];
                    } else {
                        now[v] = workOut(f.kind[v], now[f.x[v]], now[f.y[v]], f.number[v], inputs);
                    }
                }
            }
            for (int r = 0; r < f.results; r++) {
                seen[r] = now[f.resultValue[r]] & f.resultMask[r];
            }
        }

        private static int workOut(int kind, int x, int y, int number, int[] inputs) {
            switch (kind) {
                case ADD:
                    return x + y;
                case SUB:
                    return x - y;
                case MUL:
                    return x * y;
                case AND:
                    return x & y;
                case OR:
                    return x | y;
                case XOR:
                    return x ^ y;
                case SHIFT_LEFT:
                    return x << number;
                case SHIFT_RIGHT:
                    return x >> number;
                case SHIFT_LOGICAL:
                    return x >>> number;
                case BYTE:
                    return (byte) x;
                case SHORT:
                    return (short) x;
                case INPUT:
                    return inputs[number];
                default:
                    return number;
            }
        }
    }
}
