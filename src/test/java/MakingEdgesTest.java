/** The boundary sentences of promises 1 to 9, and those on what throws: a test for each. */
public final class MakingEdgesTest extends ByHand {
    private static final String FIRST = "where it lists more than one exception, the first one wins";

    public static void main(String[] args) {
        newValues();
        newResults();
        newRuns();
        inputsThatAre();
        inputsThatAreNot();
        constants();
        operationsThatAreNot();
        operationsThatAre();
        shiftsThatAreNot();
        distancesThatAreNot();
        shiftsThatAre();
        extensions();
        loops();
        operandsThatAreNone();
        valuesThatAreNone();
        theLastOfEachKind();
        backValues();
        backValuesInARow();
        backOfNoLoop();
        fourResults();
        fiveResults();
        firstOfInput();
        firstOfBinary();
        firstOfShift();
        firstOfExtend();
        firstOfLoop();
        firstOfBack();
        firstOfResult();
        firstOfBits();
        refusalsOfAFewValues();
        refusalsOfAFullOne();
        check.end();
    }

    private static void newValues() {
        check.about("Promise 1", "No values");
        DemandedBits d = new DemandedBits();
        for (int operation = ADD; operation <= XOR; operation++) {
            int binary = operation;
            check.fails("binary", INDEX, () -> d.binary(binary, 0, 0));
        }
        for (int operation = LEFT; operation <= LOGICAL; operation++) {
            int shift = operation;
            check.fails("shift", INDEX, () -> d.shift(shift, 0, 0));
        }
        check.fails("extend", INDEX, () -> d.extend(0, false));
        check.fails("loop", INDEX, () -> d.loop(0));
        check.fails("back", INDEX, () -> d.back(0, 0));
        check.fails("result", INDEX, () -> d.result(0, 0));
        for (int what = ZEROS; what <= SHORTER; what++) {
            int asked = what;
            check.fails("bits", INDEX, () -> d.bits(0, asked));
        }
        check.fails("replaced", INDEX, () -> d.replaced(0));
        check.fails("value", INDEX, () -> d.value(0, false));
        check.fails("value in the shorter", INDEX, () -> d.value(0, true));
        check.fails("an input that is none", ARGUMENT, () -> d.input(3));
        check.fails("an operation that is none", ARGUMENT, () -> d.binary(6, 0, 0));
        check.fails("a distance that is none", ARGUMENT, () -> d.shift(LEFT, 0, 32));
        check.fails("bits that are none", INDEX, () -> d.bits(0, 5));
        check.same("live", 0, d.live());
        check.same("the first input", 0, new DemandedBits().input(2));
        check.same("the first constant", 0, d.constant(0));
        check.fails("not of another object", INDEX, () -> new DemandedBits().bits(0, ZEROS));
    }

    private static void newResults() {
        check.about("Promise 1", "no results");
        DemandedBits d = new DemandedBits();
        check.fails("as it is", INDEX, () -> d.observed(0, false));
        check.fails("in the shorter", INDEX, () -> d.observed(0, true));
        d.input(0);
        check.fails("with a value", INDEX, () -> d.observed(0, false));
        check.same("demanded", 0, d.bits(0, DEMANDED));
        check.same("the first one", 0, d.result(0, -1));
    }

    private static void newRuns() {
        check.about("Promise 1", "nothing was run");
        DemandedBits d = new DemandedBits();
        d.constant(7);
        d.result(0, -1);
        check.same("value as it is", 0, d.value(0, false));
        check.same("value in the shorter", 0, d.value(0, true));
        check.same("observed as it is", 0, d.observed(0, false));
        check.same("observed in the shorter", 0, d.observed(0, true));
        DemandedBits empty = new DemandedBits();
        check.fails("a run of no rounds", ARGUMENT, () -> empty.run(0, 1, 2, 3));
        check.same("a run of no values", 0, empty.run(1, 1, 2, 3));
        check.same("a longer run of no values", 0, empty.run(50, 1, 2, 3));
        empty.input(0);
        check.same("a value made later", 0, empty.value(0, false));
    }

    private static void inputsThatAre() {
        check.about("Promise 2", "INPUT k: its number.");
        DemandedBits d = constants(5);
        check.same("input 2", 5, d.input(2));
        check.same("input 0", 6, d.input(0));
        check.same("input 1", 7, d.input(1));
        check.same("input 2 again", 8, d.input(2));
        d.run(1, MIN, MAX, -1);
        check.same("input 2", -1, d.value(5, false));
        check.same("input 0", MIN, d.value(6, false));
        check.same("input 1", MAX, d.value(7, false));
        check.same("input 2 again", -1, d.value(8, false));
    }

    private static void inputsThatAreNot() {
        check.about("Promise 2", "IllegalArgument: k is not 0 .. 2");
        DemandedBits d = new DemandedBits();
        for (int k : outside(3)) {
            check.fails("input " + k, ARGUMENT, () -> d.input(k));
        }
        check.same("none of them was made", 0, d.input(0));
    }

    private static void constants() {
        check.about("Promise 3", "CONSTANT c: its number.");
        int[] some = {MIN, MIN + 1, -1, 0, 1, MAX - 1, MAX};
        DemandedBits d = new DemandedBits();
        for (int i = 0; i < some.length; i++) {
            check.same("its number", i, d.constant(some[i]));
        }
        d.run(1, 9, 9, 9);
        for (int i = 0; i < some.length; i++) {
            check.same("as it is", some[i], d.value(i, false));
            check.same("in the shorter", some[i], d.value(i, true));
        }
    }

    private static void operationsThatAreNot() {
        check.about("Promise 4", "IllegalArgument: operation is not 0 .. 5");
        DemandedBits d = constants(2);
        for (int operation : outside(6)) {
            check.fails("operation " + operation, ARGUMENT, () -> d.binary(operation, 0, 1));
        }
        check.same("none of them was made", 2, d.constant(0));
    }

    private static void operationsThatAre() {
        check.about("Promise 4", "ADD .. XOR of two values: its number.");
        DemandedBits d = withConstant(0);
        int[] due = {15, 9, 36, 0, 15, 15};
        for (int operation = 0; operation <= 5; operation++) {
            check.same("its number", 3 + operation, d.binary(operation, 0, 1));
        }
        d.run(1, 12, 3, 0);
        for (int operation = 0; operation <= 5; operation++) {
            check.same("operation " + operation, due[operation], d.value(3 + operation, false));
        }
    }

    private static void shiftsThatAreNot() {
        check.about("Promise 5", "IllegalArgument: operation is not 0 .. 2");
        DemandedBits d = constants(1);
        for (int operation : outside(3)) {
            check.fails("operation " + operation, ARGUMENT, () -> d.shift(operation, 0, 0));
        }
        check.same("none of them was made", 1, d.constant(0));
    }

    private static void distancesThatAreNot() {
        check.about("Promise 5", "or distance not 0 .. 31");
        DemandedBits d = constants(1);
        for (int operation = LEFT; operation <= LOGICAL; operation++) {
            int shift = operation;
            for (int distance : outside(32)) {
                check.fails("distance " + distance, ARGUMENT, () -> d.shift(shift, 0, distance));
            }
        }
        check.same("none of them was made", 1, d.constant(0));
    }

    private static void shiftsThatAre() {
        check.about("Promise 5", "LEFT, RIGHT or LOGICAL: its number.");
        DemandedBits d = new DemandedBits();
        d.input(0);
        int[] operations = {LEFT, RIGHT, LOGICAL, LEFT, RIGHT, LOGICAL};
        int[] distances = {0, 0, 0, 31, 31, 31};
        int[] due = {-3, -3, -3, MIN, -1, 1};
        for (int i = 0; i < due.length; i++) {
            check.same("its number", 1 + i, d.shift(operations[i], 0, distances[i]));
        }
        d.run(1, -3, 0, 0);
        for (int i = 0; i < due.length; i++) {
            check.same("the " + i + "th", due[i], d.value(1 + i, false));
        }
    }

    private static void extensions() {
        check.about("Promise 6", "BYTE (wide false) or SHORT: its number.");
        DemandedBits d = new DemandedBits();
        d.input(0);
        check.same("byte's number", 1, d.extend(0, false));
        check.same("short's number", 2, d.extend(0, true));
        d.run(1, 0x17FFF, 0, 0);
        check.same("byte", -1, d.value(1, false));
        check.same("short", 0x7FFF, d.value(2, false));
    }

    private static void loops() {
        check.about("Promise 7", "LOOP: its number.");
        DemandedBits d = new DemandedBits();
        d.input(0);
        check.same("its number", 1, d.loop(0));
        check.same("a loop of a loop", 2, d.loop(1));
        d.run(50, 5, 0, 0);
        check.same("its x", 5, d.value(2, false));
    }

    private static void operandsThatAreNone() {
        check.about("Terms", "IndexOutOfBounds: an operand or a value is none of the values there are.", "an operand");
        DemandedBits d = constants(3);
        DemandedBits full = full();
        for (int none : outside(3)) {
            noOperand(d, none, 1);
        }
        for (int none : outside(24)) {
            noOperand(full, none, 23);
        }
        check.same("the last one is", 3, d.binary(XOR, 2, 2));
        check.same("the last one is", 4, d.shift(LEFT, 3, 0));
        check.same("the last one is", 5, d.extend(4, true));
        check.same("the last one is", 6, d.loop(5));
    }

    private static void noOperand(DemandedBits d, int none, int one) {
        check.fails("x of a binary, " + none, INDEX, () -> d.binary(ADD, none, one));
        check.fails("y of a binary, " + none, INDEX, () -> d.binary(ADD, one, none));
        check.fails("both of a binary, " + none, INDEX, () -> d.binary(XOR, none, none));
        check.fails("x of a shift, " + none, INDEX, () -> d.shift(RIGHT, none, 31));
        check.fails("x of a byte, " + none, INDEX, () -> d.extend(none, false));
        check.fails("x of a short, " + none, INDEX, () -> d.extend(none, true));
        check.fails("x of a loop, " + none, INDEX, () -> d.loop(none));
    }

    private static void valuesThatAreNone() {
        check.about("Terms", "IndexOutOfBounds: an operand or a value is none of the values there are.", "a value");
        DemandedBits d = constants(2);
        d.loop(0);
        for (int none : outside(3)) {
            check.fails("back of " + none, INDEX, () -> d.back(none, 0));
            check.fails("back to " + none, INDEX, () -> d.back(2, none));
            check.fails("result of " + none, INDEX, () -> d.result(none, 1));
            check.fails("bits of " + none, INDEX, () -> d.bits(none, 0));
            check.fails("replaced, of " + none, INDEX, () -> d.replaced(none));
            check.fails("value of " + none, INDEX, () -> d.value(none, false));
            check.fails("value in the shorter of " + none, INDEX, () -> d.value(none, true));
        }
        d.back(2, 2);
        check.same("a result of the last one", 0, d.result(2, 1));
        check.same("bits of the last one", 1, d.bits(2, DEMANDED));
        check.same("replaced, of the last one", FIXED, d.replaced(2));
        check.same("value of the last one", 0, d.value(2, true));
    }

    private static void theLastOfEachKind() {
        check.about("Terms", "IllegalState: there are 24 values.");
        for (Maker maker : MAKERS) {
            DemandedBits d = constants(23);
            check.same("the 24th", 23, maker.make(d));
            check.fails("the 25th", STATE, () -> maker.make(d));
            check.fails("and another", STATE, () -> maker.make(d));
        }
        DemandedBits d = constants(23);
        d.loop(0);
        check.same("a result needs no room for a value", 0, d.result(23, 1));
        d.back(23, 22);
        d.run(2, 0, 0, 0);
        check.same("nor does back", 22, d.value(23, false));
    }

    private static void backValues() {
        check.about("Promise 8", "A LOOP's back value becomes another.");
        DemandedBits d = withConstant(100);
        int loop = d.loop(0);
        int next = d.binary(ADD, loop, 2);
        int other = d.loop(1);
        int[] backs = {loop, 0, 1, 2, next, other, loop};
        int[] due = {7, 7, 8, 100, 207, 8, 7};
        for (int i = 0; i < backs.length; i++) {
            d.back(loop, backs[i]);
            d.run(3, 7, 8, 0);
            check.same("back from " + backs[i], due[i], d.value(loop, false));
            check.same("the other loop stays", 8, d.value(other, false));
        }
    }

    private static void backValuesInARow() {
        check.about("Promise 8", "A LOOP's back value becomes another.",
                "facts and demands are those of the last one told");
        DemandedBits d = withConstant(0);
        int loop = d.loop(2);
        d.result(loop, 0xF);
        check.same("known at first", -1, d.bits(loop, ZEROS));
        d.back(loop, 0);
        check.same("not known then", 0, d.bits(loop, ZEROS));
        check.same("the input is asked", 0xF, d.bits(0, DEMANDED));
        check.same("it is not replaced", NONE, d.replaced(loop));
        d.back(loop, 1);
        check.same("the input is not", 0, d.bits(0, DEMANDED));
        check.same("the other one is", 0xF, d.bits(1, DEMANDED));
        d.back(loop, loop);
        check.same("known again", -1, d.bits(loop, ZEROS));
        check.same("nor is the other one", 0, d.bits(1, DEMANDED));
        check.same("it is replaced", FIXED, d.replaced(loop));
        check.same("and lives alone", 1, d.live());
    }

    private static void backOfNoLoop() {
        check.about("Promise 8", "IllegalArgument: the first is no LOOP.");
        DemandedBits d = constants(1);
        int loop = d.loop(0);
        for (int i = 0; i < MAKERS.length - 1; i++) {
            int v = MAKERS[i].make(d);
            check.fails("kind " + i, ARGUMENT, () -> d.back(v, loop));
            check.fails("kind " + i + ", to itself", ARGUMENT, () -> d.back(v, v));
        }
        int last = MAKERS[MAKERS.length - 1].make(d);
        d.back(last, 2);
        d.run(2, 31, 0, 0);
        check.same("a loop is refused nothing", 31, d.value(last, false));
    }

    private static void fourResults() {
        check.about("Promise 9", "A result more: its number.");
        DemandedBits d = withConstant(0x77);
        check.same("of the first value", 0, d.result(0, 0x0F));
        check.same("of the last value", 1, d.result(2, -1));
        check.same("of no bits", 2, d.result(1, 0));
        check.same("the 4th, of one that has one", 3, d.result(0, MIN));
        d.run(1, -1, -1, 0);
        int[] due = {0x0F, 0x77, 0, MIN};
        for (int r = 0; r < 4; r++) {
            check.same("result " + r, due[r], d.observed(r, false));
        }
    }

    private static void fiveResults() {
        check.about("Promise 9", "IllegalState: there are 4.");
        DemandedBits d = withConstant(1);
        for (int r = 0; r < 4; r++) {
            d.result(0, 1);
        }
        check.fails("the 5th", STATE, () -> d.result(0, -1));
        check.fails("the 5th of no bits", STATE, () -> d.result(2, 0));
        check.same("no more is demanded", 1, d.bits(0, DEMANDED));
        check.fails("it is not there", INDEX, () -> d.observed(4, false));
        check.same("there is still room for values", 3, d.input(0));
    }

    private static void firstOfInput() {
        check.about("Promise 2", FIRST, "IllegalArgument, IllegalState");
        for (int k : outside(3)) {
            check.fails("no input, no room", ARGUMENT, () -> full().input(k));
        }
    }

    private static void firstOfBinary() {
        check.about("Promise 4", FIRST, "IllegalArgument, IndexOutOfBounds, IllegalState");
        DemandedBits few = constants(2);
        DemandedBits full = full();
        for (int operation : outside(6)) {
            check.fails("no operation, no x", ARGUMENT, () -> few.binary(operation, 2, 0));
            check.fails("no operation, no y", ARGUMENT, () -> few.binary(operation, 0, -1));
            check.fails("no operation, no room", ARGUMENT, () -> full.binary(operation, 0, 0));
            check.fails("no operation, no x, no y, no room", ARGUMENT, () -> full.binary(operation, 24, 24));
        }
        check.fails("no x, no room", INDEX, () -> full.binary(ADD, 24, 0));
        check.fails("no y, no room", INDEX, () -> full.binary(XOR, 0, -1));
    }

    private static void firstOfShift() {
        check.about("Promise 5", FIRST, "IllegalArgument, IndexOutOfBounds, IllegalState");
        DemandedBits few = constants(2);
        DemandedBits full = full();
        check.fails("no operation, no x", ARGUMENT, () -> few.shift(3, 2, 0));
        check.fails("no distance, no x", ARGUMENT, () -> few.shift(LEFT, 2, 32));
        check.fails("no operation, no distance", ARGUMENT, () -> few.shift(-1, 0, -1));
        check.fails("no operation, no room", ARGUMENT, () -> full.shift(3, 0, 0));
        check.fails("no distance, no room", ARGUMENT, () -> full.shift(LOGICAL, 0, -1));
        check.fails("no operation, no x, no distance, no room", ARGUMENT, () -> full.shift(3, 24, 32));
        check.fails("no x, no room", INDEX, () -> full.shift(RIGHT, 24, 31));
    }

    private static void firstOfExtend() {
        check.about("Promise 6", FIRST, "IndexOutOfBounds, IllegalState");
        DemandedBits full = full();
        for (int none : outside(24)) {
            check.fails("no x, no room for a byte", INDEX, () -> full.extend(none, false));
            check.fails("no x, no room for a short", INDEX, () -> full.extend(none, true));
        }
    }

    private static void firstOfLoop() {
        check.about("Promise 7", FIRST, "IndexOutOfBounds, IllegalState");
        DemandedBits full = full();
        for (int none : outside(24)) {
            check.fails("no x, no room", INDEX, () -> full.loop(none));
        }
    }

    private static void firstOfBack() {
        check.about("Promise 8", FIRST, "IndexOutOfBounds, IllegalArgument");
        DemandedBits d = constants(3);
        for (int none : outside(3)) {
            check.fails("no loop, no value", INDEX, () -> d.back(0, none));
            check.fails("neither is there", INDEX, () -> d.back(none, none));
        }
    }

    private static void firstOfResult() {
        check.about("Promise 9", FIRST, "IndexOutOfBounds, IllegalState");
        DemandedBits d = constants(3);
        for (int r = 0; r < 4; r++) {
            d.result(0, 1);
        }
        for (int none : outside(3)) {
            check.fails("no value, no room", INDEX, () -> d.result(none, 1));
        }
    }

    private static void firstOfBits() {
        check.about("Promise 10", FIRST, "IndexOutOfBounds, IllegalArgument");
        DemandedBits d = constants(3);
        for (int none : outside(3)) {
            check.fails("no value, no such bits", INDEX, () -> d.bits(none, -1));
            check.fails("no value, no such bits", INDEX, () -> d.bits(none, 5));
        }
    }

    /** All that can be asked of an object, then what comes of one more run, and what the next ones are numbered. */
    private static String everything(DemandedBits d, int values, int results) {
        StringBuilder all = new StringBuilder();
        for (int v = 0; v < values; v++) {
            for (int what = ZEROS; what <= SHORTER; what++) {
                all.append(d.bits(v, what)).append(' ');
            }
            all.append(d.replaced(v)).append(' ');
        }
        all.append(d.live()).append(' ').append(latestRun(d, values, results));
        all.append(d.run(4, 0x1234, -77, 99)).append(' ').append(latestRun(d, values, results));
        if (values < 24) {
            all.append(d.constant(0)).append(' ');
        }
        if (results < 4) {
            all.append(d.result(0, 0));
        }
        return all.toString();
    }

    private static String latestRun(DemandedBits d, int values, int results) {
        StringBuilder all = new StringBuilder();
        for (int v = 0; v < values; v++) {
            all.append(d.value(v, false)).append(' ').append(d.value(v, true)).append(' ');
        }
        for (int r = 0; r < results; r++) {
            all.append(d.observed(r, false)).append(' ').append(d.observed(r, true)).append(' ');
        }
        return all.toString();
    }

    /** A loop that adds up, one that is fixed, a value and a result made behind the run. */
    private static DemandedBits few() {
        DemandedBits d = withConstant(0xFF);
        int low = d.binary(AND, 0, 2);
        int sum = d.loop(low);
        d.back(sum, d.binary(ADD, sum, 1));
        d.result(sum, 0xFF);
        d.run(3, 0x501, 0x20, 3);
        d.loop(2);
        d.result(6, 0xF);
        return d;
    }

    private static void refusalsOfAFewValues() {
        check.about("Terms", "A call that throws changes nothing", "with a few values and 2 results");
        String due = everything(few(), 7, 2);
        DemandedBits d = few();
        check.fails("input", ARGUMENT, () -> d.input(3));
        check.fails("binary, no operation", ARGUMENT, () -> d.binary(6, 0, 1));
        check.fails("binary, no x", INDEX, () -> d.binary(ADD, 7, 0));
        check.fails("binary, no y", INDEX, () -> d.binary(ADD, 0, 7));
        check.fails("shift, no distance", ARGUMENT, () -> d.shift(LEFT, 0, 32));
        check.fails("shift, no x", INDEX, () -> d.shift(LEFT, 7, 0));
        check.fails("extend", INDEX, () -> d.extend(7, false));
        check.fails("loop", INDEX, () -> d.loop(7));
        check.fails("back of no loop", ARGUMENT, () -> d.back(3, 0));
        check.fails("back to nothing", INDEX, () -> d.back(4, 7));
        check.fails("back of nothing", INDEX, () -> d.back(-1, 0));
        check.fails("result", INDEX, () -> d.result(7, -1));
        check.fails("bits of nothing", INDEX, () -> d.bits(7, 0));
        check.fails("no such bits", ARGUMENT, () -> d.bits(0, 5));
        check.fails("replaced", INDEX, () -> d.replaced(7));
        check.fails("no rounds", ARGUMENT, () -> d.run(0, 1, 1, 1));
        check.fails("too many rounds", ARGUMENT, () -> d.run(51, 1, 1, 1));
        check.fails("observed", INDEX, () -> d.observed(2, true));
        check.fails("value", INDEX, () -> d.value(7, true));
        check.same("all is as without them", due, everything(d, 7, 2));
    }

    private static DemandedBits fullOfAll() {
        DemandedBits d = few();
        for (Maker maker : MAKERS) {
            maker.make(d);
        }
        d.constant(5);
        d.loop(22);
        d.result(23, -1);
        d.result(21, 0x80);
        d.run(2, -5, 6, 7);
        return d;
    }

    private static void refusalsOfAFullOne() {
        check.about("Terms", "A call that throws changes nothing", "with 24 values and 4 results");
        String due = everything(fullOfAll(), 24, 4);
        DemandedBits d = fullOfAll();
        for (Maker maker : MAKERS) {
            check.fails("a value more", STATE, () -> maker.make(d));
        }
        check.fails("a result more", STATE, () -> d.result(0, -1));
        check.fails("back of no loop", ARGUMENT, () -> d.back(22, 0));
        check.fails("back to nothing", INDEX, () -> d.back(23, 24));
        check.fails("too many rounds", ARGUMENT, () -> d.run(51, 1, 1, 1));
        check.same("all is as without them", due, everything(d, 24, 4));
    }
}
