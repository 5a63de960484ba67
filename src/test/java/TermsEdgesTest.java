/** The boundary sentences of the document's 'Terms' on values, runs, facts and demands: a test for each. */
public final class TermsEdgesTest extends ByHand {
    public static void main(String[] args) {
        theLastCall();
        theLastValue();
        operandsMadeBefore();
        bitsOfAnInt();
        wrapping();
        distances();
        bytesAndShorts();
        loopsAtFirst();
        masks();
        rounds();
        resultsOfTheLastRound();
        factsOfInputsAndConstants();
        factsOfAnd();
        factsOfOr();
        factsOfXor();
        factsOfShifts();
        factsOfBytesAndShorts();
        firstCarries();
        knownSumBits();
        carriesKnown0();
        carriesKnown1();
        carriesOutOfTheHighest();
        factsOfDifferences();
        knownProducts();
        zerosOfProducts();
        factsOfLoops();
        factsThatFall();
        factsThatFallByX();
        factsThatFallForLong();
        factsThatStay();
        factsInAnyOrder();
        demandsOfNothing();
        demandsUpTo();
        demandsOfAnd();
        demandsOfOr();
        demandsOfXorAndLoop();
        demandsOfLeft();
        demandsOfLogical();
        demandsOfRight();
        demandsOfBytesAndShorts();
        check.end();
    }

    private static void theLastCall() {
        check.about("What it is", "An object is used for at most 512 calls after it has been made");
        DemandedBits d = withConstant(3);
        int sum = d.binary(ADD, 0, 2);
        d.result(sum, -1);
        for (int call = 6; call < 512; call++) {
            d.run(1, call, 0, 0);
        }
        check.same("the 512th call", 514, d.observed(0, true));
    }

    private static void theLastValue() {
        check.about("Terms", "VALUES are numbered 0, 1, .. as they are made, at most 24.");
        DemandedBits d = new DemandedBits();
        for (int v = 0; v < 24; v++) {
            check.same("a value's number", v, MAKERS[v % MAKERS.length].make(d));
        }
        for (Maker maker : MAKERS) {
            check.fails("a 25th", STATE, () -> maker.make(d));
        }
        check.same("the 24th is there", 0, d.bits(23, DEMANDED));
        check.fails("the 25th is not", INDEX, () -> d.bits(24, DEMANDED));
    }

    private static void operandsMadeBefore() {
        check.about("Terms", "OPERANDS x, y, which are values made before");
        DemandedBits d = withConstant(0);
        check.fails("x of a binary is itself", INDEX, () -> d.binary(ADD, 3, 0));
        check.fails("y of a binary is itself", INDEX, () -> d.binary(ADD, 0, 3));
        check.fails("x of a shift is itself", INDEX, () -> d.shift(LEFT, 3, 0));
        check.fails("x of an extension is itself", INDEX, () -> d.extend(3, true));
        check.fails("x of a loop is itself", INDEX, () -> d.loop(3));
        check.same("the first one and the one just before", 3, d.binary(ADD, 0, 2));
        check.same("twice the one just before", 4, d.binary(ADD, 3, 3));
        d.run(1, 21, 0, 0);
        check.same("twice the one just before", 42, d.value(4, false));
    }

    private static void bitsOfAnInt() {
        check.about("Terms", "an int's bits are 0 .. 31, bit 31 being its sign");
        for (int i = 0; i < 32; i++) {
            DemandedBits d = new DemandedBits();
            d.input(0);
            d.constant(1);
            d.shift(LEFT, 1, i);
            d.result(0, 1 << i);
            d.run(1, -1, 0, 0);
            check.same("bit " + i, i == 31, d.observed(0, false) < 0);
            check.same("bit " + i, 1 << i, d.bits(0, DEMANDED));
            check.same("bit " + i, 1 << i, d.bits(2, ONES));
        }
    }

    private static void wrapping() {
        check.about("Terms", "ADD, SUB, MUL, AND, OR, XOR of x and y (wrapping)");
        wraps(MAX, 1, MIN, MAX - 1, MAX);
        wraps(MIN, 1, MIN + 1, MAX, MIN);
        wraps(MIN, -1, MAX, MIN + 1, MIN);
        wraps(1, MIN, MIN + 1, MIN + 1, MIN);
        wraps(0, MIN, MIN, MIN, 0);
        wraps(MIN, MIN, 0, 0, 0);
        wraps(MAX, MAX, -2, 0, 1);
        wraps(-1, -1, -2, 0, 1);
        wraps(0x10000, 0x10000, 0x20000, 0, 0);
        wraps(0x10001, 0xFFFF, 0x20000, 2, -1);
    }

    /** Once by the run of inputs, and once by the facts of constants. */
    private static void wraps(int x, int y, int sum, int difference, int product) {
        int[] due = {sum, difference, product, x & y, x | y, x ^ y};
        DemandedBits d = new DemandedBits();
        d.input(0);
        d.input(1);
        d.constant(x);
        d.constant(y);
        for (int operation = ADD; operation <= XOR; operation++) {
            d.binary(operation, 0, 1);
            d.binary(operation, 2, 3);
        }
        d.run(1, x, y, 0);
        for (int operation = ADD; operation <= XOR; operation++) {
            String what = operation + " of " + x + " and " + y;
            check.same(what, due[operation], d.value(4 + 2 * operation, false));
            check.same(what + ", of constants", due[operation], d.value(5 + 2 * operation, false));
            check.same(what + ", ones", due[operation], d.bits(5 + 2 * operation, ONES));
            check.same(what + ", zeros", ~due[operation], d.bits(5 + 2 * operation, ZEROS));
        }
    }

    private static void distances() {
        check.about("Terms", "of x and a DISTANCE k, 0 .. 31: LEFT (x << k), RIGHT (x >> k), LOGICAL (x >>> k)");
        shifted(LEFT, 0x80000001, 0, 0x80000001);
        shifted(LEFT, 0x80000001, 1, 2);
        shifted(LEFT, 0x80000001, 31, MIN);
        shifted(LEFT, 2, 31, 0);
        shifted(RIGHT, 0x80000001, 0, 0x80000001);
        shifted(RIGHT, 0x80000001, 1, 0xC0000000);
        shifted(RIGHT, 0x80000001, 31, -1);
        shifted(RIGHT, MAX, 30, 1);
        shifted(RIGHT, MAX, 31, 0);
        shifted(LOGICAL, 0x80000001, 0, 0x80000001);
        shifted(LOGICAL, 0x80000001, 1, 0x40000000);
        shifted(LOGICAL, 0x80000001, 31, 1);
        shifted(LOGICAL, MAX, 31, 0);
    }

    private static void shifted(int operation, int x, int distance, int due) {
        DemandedBits d = withConstant(0);
        int v = d.shift(operation, 1, distance);
        d.run(1, 0x55555555, x, 0);
        check.same(operation + " of " + x + " by " + distance, due, d.value(v, false));
    }

    private static void bytesAndShorts() {
        check.about("Terms", "BYTE and SHORT (the lowest 8 or 16 bits with their highest one as sign)");
        int[] bytes = {127, 128, 255, 256, -128, -129, -256, MIN, MAX};
        int[] dueBytes = {127, -128, -1, 0, -128, 127, 0, 0, -1};
        int[] shorts = {32767, 32768, 65535, 65536, -32768, -32769, -65536, MIN, MAX};
        int[] dueShorts = {32767, -32768, -1, 0, -32768, 32767, 0, 0, -1};
        for (int i = 0; i < bytes.length; i++) {
            DemandedBits d = new DemandedBits();
            d.input(0);
            d.input(1);
            d.input(2);
            d.extend(1, false);
            d.extend(2, true);
            d.run(1, 0x55555555, bytes[i], shorts[i]);
            check.same("byte of " + bytes[i], dueBytes[i], d.value(3, false));
            check.same("short of " + shorts[i], dueShorts[i], d.value(4, false));
        }
    }

    private static void loopsAtFirst() {
        check.about("Terms", "LOOP of x and a BACK value, which is any value, itself at first.");
        DemandedBits d = new DemandedBits();
        d.input(0);
        d.loop(0);
        d.result(1, 0xF0);
        for (int rounds = 1; rounds <= 3; rounds++) {
            d.run(rounds, 77, 0, 0);
            check.same("it stays x", 77, d.value(1, false));
        }
        check.same("it asks for its own bits and those of x", 0xF0, d.bits(1, DEMANDED));
        check.same("it asks for its own bits and those of x", 0xF0, d.bits(0, DEMANDED));
    }

    private static void masks() {
        check.about("Terms", "each a value and a MASK (an int): the bits that are set in it are OBSERVED.");
        int[] masks = {0, 1, MIN, -1, MAX};
        for (int mask : masks) {
            DemandedBits d = new DemandedBits();
            d.input(0);
            d.result(0, mask);
            d.run(1, -1, 0, 0);
            check.same("of all bits", mask, d.observed(0, false));
            check.same("demanded", mask, d.bits(0, DEMANDED));
        }
        DemandedBits d = new DemandedBits();
        d.input(0);
        d.result(0, 1);
        d.result(0, 0);
        d.result(0, 0x101);
        d.result(0, MIN);
        check.same("all masks of one value", MIN | 0x101, d.bits(0, DEMANDED));
    }

    private static void rounds() {
        check.about("Terms", "a LOOP is x in round 0, and what its back value was in the round before in the others.");
        DemandedBits d = withConstant(1);
        int count = d.loop(0);
        d.back(count, d.binary(ADD, count, 2));
        int late = d.loop(count);
        d.back(late, 1);
        int last = d.loop(1);
        d.back(last, late);
        d.run(1, 10, 99, 0);
        check.same("round 0, x", 10, d.value(count, false));
        check.same("round 0, an x that is a loop", 10, d.value(late, false));
        check.same("round 0, not the back value", 99, d.value(last, false));
        d.run(2, 10, 99, 0);
        check.same("round 1", 11, d.value(count, false));
        check.same("round 1, no more x", 99, d.value(late, false));
        check.same("round 1, of round 0", 10, d.value(last, false));
        d.run(3, 10, 99, 0);
        check.same("round 2", 12, d.value(count, false));
        check.same("round 2, of round 1", 99, d.value(last, false));
    }

    private static void resultsOfTheLastRound() {
        check.about("Terms", "A result is, behind the last round, its value AND its mask.");
        DemandedBits d = withConstant(0x11);
        int sum = d.loop(0);
        d.back(sum, d.binary(ADD, sum, 2));
        d.result(sum, 0xF0);
        d.result(sum, 0);
        int[] due = {0x00, 0x10, 0x20};
        for (int rounds = 1; rounds <= 3; rounds++) {
            d.run(rounds, 0x0A, 0, 0);
            check.same("after " + rounds, due[rounds - 1], d.observed(0, false));
            check.same("after " + rounds + " in the shorter", due[rounds - 1], d.observed(0, true));
            check.same("nothing observed", 0, d.observed(1, false));
        }
    }

    private static void factsOfInputsAndConstants() {
        check.about("Terms", "INPUT: none. CONSTANT: all.");
        int[] some = {0, 1, -1, MIN, MAX};
        for (int c : some) {
            DemandedBits d = withConstant(c);
            facts(d, 0, 0, 0);
            facts(d, 2, ~c, c);
        }
    }

    /** The facts of an operation whose operands have these. */
    private static void factsOf(int operation, String x, String y, String due) {
        DemandedBits d = new DemandedBits();
        int v = d.binary(operation, partly(d, x), partly(d, y));
        facts(x + " and " + y, d, v, due);
    }

    private static void factsOfAnd() {
        check.about("Terms", "AND: ones those known 1 in both, zeros those known 0 in one");
        factsOf(AND, "000111UUU", "01U01U01U", "00001U0UU");
        factsOf(AND, "0", "U", "0");
        factsOf(AND, "U", "0", "0");
        factsOf(AND, "1", "U", "U");
        factsOf(AND, "1", "1", "1");
    }

    private static void factsOfOr() {
        check.about("Terms", "OR likewise with 0 and 1 exchanged");
        factsOf(OR, "000111UUU", "01U01U01U", "01U111U1U");
        factsOf(OR, "1", "U", "1");
        factsOf(OR, "U", "1", "1");
        factsOf(OR, "0", "U", "U");
        factsOf(OR, "0", "0", "0");
    }

    private static void factsOfXor() {
        check.about("Terms", "XOR: those known in both.");
        factsOf(XOR, "000111UUU", "01U01U01U", "01U10UUUU");
        factsOf(XOR, "1", "1", "0");
        factsOf(XOR, "0", "1", "1");
        factsOf(XOR, "1", "U", "U");
        DemandedBits d = withConstant(0);
        facts("an unknown value with itself", d, d.binary(XOR, 0, 0), "U");
    }

    private static void factsOfShifts() {
        check.about("Terms", "LEFT, RIGHT, LOGICAL, BYTE, SHORT: each bit as the bit of x from which it comes, "
                + "or as the 0 that comes in.");
        String middle = "U".repeat(26);
        String x = "1U0" + middle + "01U";
        factsShifted(LEFT, x, 0, x);
        factsShifted(LEFT, x, 1, "U0" + middle + "01U0");
        factsShifted(LEFT, x, 31, "U" + "0".repeat(31));
        factsShifted(RIGHT, x, 0, x);
        factsShifted(RIGHT, x, 1, "11U0" + middle + "01");
        factsShifted(RIGHT, x, 31, "1");
        factsShifted(RIGHT, "U0", 31, "U");
        factsShifted(RIGHT, "0U", 31, "0");
        factsShifted(LOGICAL, x, 0, x);
        factsShifted(LOGICAL, x, 1, "01U0" + middle + "01");
        factsShifted(LOGICAL, x, 31, "01");
        factsShifted(LOGICAL, "U", 31, "0U");
    }

    private static void factsShifted(int operation, String x, int distance, String due) {
        DemandedBits d = new DemandedBits();
        int v = d.shift(operation, partly(d, x), distance);
        facts(operation + " of " + x + " by " + distance, d, v, due);
    }

    private static void factsOfBytesAndShorts() {
        check.about("Terms", "BYTE, SHORT: each bit as the bit of x from which it comes");
        factsExtended(false, "010UUUUU1", "10UUUUU1");
        factsExtended(false, "100UUUUU1", "00UUUUU1");
        factsExtended(false, "0U0000000", "U0000000");
        factsExtended(false, "U10000000", "10000000");
        String low = "0".repeat(15);
        factsExtended(true, "01" + low, "1" + low);
        factsExtended(true, "10" + low, "0" + low);
        factsExtended(true, "0U" + low, "U" + low);
        factsExtended(true, "U1" + low, "1" + low);
    }

    private static void factsExtended(boolean wide, String x, String due) {
        DemandedBits d = new DemandedBits();
        facts("of " + x, d, d.extend(partly(d, x), wide), due);
    }

    private static void firstCarries() {
        check.about("Terms", "ADD: from bit 0 on, with a carry that is known 0 at first");
        factsOf(ADD, "0", "0", "0");
        factsOf(ADD, "01", "0", "01");
        factsOf(ADD, "0", "01", "01");
        factsOf(ADD, "1", "0", "1");
    }

    private static void knownSumBits() {
        check.about("Terms", "a bit of the sum is known if those of x, y and the carry are");
        factsOf(ADD, "0U", "0", "0U");
        factsOf(ADD, "0", "0U", "0U");
        factsOf(ADD, "0U", "0U", "0UU");
        factsOf(ADD, "U", "U", "U");
        factsOf(ADD, "U0", "U1", "U1");
    }

    private static void carriesKnown0() {
        check.about("Terms", "the next carry is known 0 if two of these three are known 0");
        // Of bit 0 it is always the carry with x or y; then x and y where the carry is unknown, and one alone.
        factsOf(ADD, "00", "0U", "0U");
        factsOf(ADD, "0U", "00", "0U");
        factsOf(ADD, "001", "00U", "0UU");
        factsOf(ADD, "0001", "001U", "0UUU");
        factsOf(ADD, "0101", "000U", "01UU");
    }

    private static void carriesKnown1() {
        check.about("Terms", "known 1 if two of them are known 1");
        // By x and y, the carry being known 0 and unknown; by x and the carry; by y and the carry; and by one alone.
        factsOf(ADD, "01", "01", "010");
        factsOf(ADD, "0011", "001U", "01UU");
        factsOf(ADD, "0011", "00U1", "01U0");
        factsOf(ADD, "00U1", "0011", "01U0");
        factsOf(ADD, "001", "00U", "0UU");
    }

    private static void carriesOutOfTheHighest() {
        check.about("Terms", "an int's bits are 0 .. 31", "what a sum carries out of bit 31 is lost");
        factsOf(ADD, "1", "01", "0");
        factsOf(ADD, "1", "1", "10");
        factsOf(ADD, "1" + "0".repeat(31), "1" + "0".repeat(31), "0");
    }

    private static void factsOfDifferences() {
        check.about("Terms", "SUB: as the sum of x, of y with 0 and 1 exchanged, and a carry known 1 at first.");
        factsOf(SUB, "0", "0", "0");
        factsOf(SUB, "0", "01", "1");
        factsOf(SUB, "01", "0", "01");
        factsOf(SUB, "1", "1", "0");
        factsOf(SUB, "0U", "0", "0U");
        factsOf(SUB, "0", "0U", "U");
        factsOf(SUB, "01", "0U", "0U");
        factsOf(SUB, "0U", "01", "U");
        factsOf(SUB, "1" + "0".repeat(31), "01", "0" + "1".repeat(31));
        DemandedBits d = withConstant(0);
        facts("an unknown value less itself", d, d.binary(SUB, 0, 0), "U");
    }

    private static void knownProducts() {
        check.about("Terms", "let m be such that the lowest m bits of both are known (the most, at most 32): "
                + "the lowest m bits are known, as of the product of these");
        factsOf(MUL, "U", "U", "U");
        factsOf(MUL, "0U", "01", "U");
        factsOf(MUL, "U1", "U1", "U1");
        factsOf(MUL, "U0101", "U11", "U11");
        factsOf(MUL, "U11", "U0101", "U11");
        factsOf(MUL, "U010", "010", "U100");
        factsOf(MUL, "U" + "1".repeat(31), "U" + "1".repeat(31), "U" + "0".repeat(30) + "1");
        factsOf(MUL, "0111", "0101", "0100011");
        factsOf(MUL, "1", "1", "01");
        factsOf(MUL, "1", "01", "1");
    }

    private static void zerosOfProducts() {
        check.about("Terms", "as many lowest bits are known 0 as x and y have lowest bits known 0, "
                + "both numbers added up (at most 32).");
        factsOf(MUL, "U0", "U", "U0");
        factsOf(MUL, "U", "U0", "U0");
        factsOf(MUL, "U00", "U000", "U00000");
        factsOf(MUL, "U" + "0".repeat(30), "U0", "U" + "0".repeat(31));
        factsOf(MUL, "U" + "0".repeat(16), "U" + "0".repeat(16), "0");
        factsOf(MUL, "U" + "0".repeat(31), "U0", "0");
        factsOf(MUL, "U" + "0".repeat(31), "U" + "0".repeat(31), "0");
        factsOf(MUL, "0", "U", "0");
        factsOf(MUL, "U", "0", "0");
        factsOf(MUL, "0", "0", "0");
        // The first known 1 ends the lowest zeros, whatever is known above it.
        factsOf(MUL, "0100", "U", "U00");
    }

    private static void factsOfLoops() {
        check.about("Terms", "LOOP: the facts that both x and the back value have.");
        DemandedBits d = new DemandedBits();
        int x = partly(d, "000111UUU");
        int back = partly(d, "01U01U01U");
        int loop = d.loop(x);
        facts("itself at first", d, loop, "000111UUU");
        d.back(loop, back);
        facts("made before", d, loop, "0UUU1UUUU");
        d.back(loop, x);
        facts("x", d, loop, "000111UUU");
        int behind = d.constant(-1);
        d.back(loop, behind);
        facts("made behind", d, loop, "UUU111UUU");
    }

    private static void factsThatFall() {
        check.about("Terms", "then again and again each LOOP loses what x or the back value does not have",
                "over several rounds");
        // Bit 0 is lost first, then each bit by the one below it, up to bit 7.
        DemandedBits d = withConstant(1);
        int loop = d.loop(d.constant(0));
        int moved = d.shift(LEFT, loop, 1);
        int filled = d.binary(OR, moved, d.binary(AND, 0, 2));
        d.back(loop, d.binary(AND, filled, d.constant(0xFF)));
        facts("bit by bit", d, loop, "0" + "U".repeat(8));
        facts("what comes of it", d, moved, "0" + "U".repeat(8) + "0");
        // Each loop is lost by the one behind it.
        DemandedBits e = withConstant(0);
        for (int v = 3; v < 24; v++) {
            e.loop(2);
        }
        for (int v = 3; v < 23; v++) {
            e.back(v, v + 1);
        }
        facts("all of them", e, 3, "0");
        e.back(23, 0);
        facts("none of them, the first", e, 3, "U");
        facts("none of them, the last", e, 23, "U");
        e.back(13, 2);
        facts("those in front of 13", e, 3, "0");
        facts("13", e, 13, "0");
        facts("those behind 13", e, 14, "U");
    }

    private static void factsThatFallByX() {
        check.about("Terms", "each LOOP loses what x or the back value does not have", "x");
        DemandedBits d = withConstant(0x0F);
        int first = d.loop(2);
        int second = d.loop(first);
        int third = d.loop(second);
        d.back(third, 2);
        facts("by a back value like x", d, third, "01111");
        d.back(first, d.constant(0x3C));
        facts("the first", d, first, "0UU11UU");
        facts("the second, back to itself", d, second, "0UU11UU");
        facts("the third, by its x alone", d, third, "0UU11UU");
    }

    private static void factsThatFallForLong() {
        check.about("Terms", "until nothing changes any more");
        // Each bit takes a round for each of 18 loops to get lost, and is then the next one's turn.
        DemandedBits d = new DemandedBits();
        d.constant(0);
        d.constant(1);
        int low = d.binary(AND, d.input(0), 1);
        for (int v = 4; v < 22; v++) {
            d.loop(0);
        }
        int next = d.binary(OR, d.shift(LEFT, 4, 1), low);
        for (int v = 4; v < 21; v++) {
            d.back(v, v + 1);
        }
        d.back(21, next);
        for (int v = 4; v < 22; v++) {
            facts("loop " + v, d, v, "U");
        }
        d.back(21, 22);
        facts("without what comes in", d, 4, "0");
    }

    private static void factsThatStay() {
        check.about("Terms", "first each LOOP has those of x, all others by the rules, by their numbers");
        // What holds only because it held a round ago is known, too.
        DemandedBits d = new DemandedBits();
        d.constant(6);
        int loop = d.loop(0);
        int same = d.binary(OR, loop, 0);
        d.back(loop, same);
        facts("the same again", d, loop, "0110");
        DemandedBits e = new DemandedBits();
        e.constant(8);
        int count = e.loop(0);
        int next = e.binary(ADD, count, e.constant(4));
        e.back(count, next);
        facts("a count by 4", e, count, "U00");
        facts("the next of it", e, next, "U00");
        DemandedBits f = withConstant(5);
        int one = f.loop(2);
        int two = f.loop(one);
        f.back(one, two);
        f.back(two, one);
        facts("two that hold each other", f, one, "0101");
        facts("two that hold each other", f, two, "0101");
    }

    private static void factsInAnyOrder() {
        check.about("Terms", "(In whatever order that is done, the same comes of it.)");
        // The same two loops, made in one order and in the other.
        DemandedBits d = withConstant(12);
        int first = d.loop(2);
        int second = d.loop(2);
        DemandedBits e = withConstant(12);
        int secondThere = e.loop(2);
        int firstThere = e.loop(2);
        d.back(first, second);
        d.back(second, d.shift(LEFT, first, 1));
        e.back(firstThere, secondThere);
        e.back(secondThere, e.shift(LEFT, firstThere, 1));
        // 12, 24, 48, ..: from each bit above the second on, both 0 and 1 are seen.
        facts("the first", d, first, "U00");
        facts("the second", d, second, "U00");
        facts("the first, made later", e, firstThere, "U00");
        facts("the second, made earlier", e, secondThere, "U00");
    }

    private static void demandsOfNothing() {
        check.about("Terms", "The DEMANDED bits of a value are those that are observed, and those that operations "
                + "with demanded bits ask for; no others.");
        DemandedBits d = withConstant(3);
        for (Maker maker : MAKERS) {
            maker.make(d);
        }
        for (int v = 0; v < 18; v++) {
            demanded(d, v, 0);
        }
        d.result(17, 0);
        for (int v = 0; v < 18; v++) {
            demanded(d, v, 0);
        }
        d.result(1, 5);
        for (int v = 0; v < 18; v++) {
            demanded(d, v, v == 1 ? 5 : 0);
        }
    }

    private static void demandsUpTo() {
        check.about("Terms", "UP TO d: all bits from 0 to the highest one of d, none if d is none");
        int[] masks = {0, 1, 2, 0x80, 0x100, 0x40000000, 0x40000001, MIN, -1};
        int[] upTo = {0, 1, 3, 0xFF, 0x1FF, MAX, MAX, -1, -1};
        for (int operation = ADD; operation <= MUL; operation++) {
            for (int i = 0; i < masks.length; i++) {
                DemandedBits d = withConstant(0);
                d.result(d.binary(operation, 0, 1), masks[i]);
                demanded(d, 0, upTo[i]);
                demanded(d, 1, upTo[i]);
            }
        }
    }

    /** What an operation with the lowest nine bits demanded asks for of x and y, which have these facts. */
    private static void asks(int operation, String x, String y, int ofX, int ofY) {
        DemandedBits d = new DemandedBits();
        int left = partly(d, x);
        int right = partly(d, y);
        d.result(d.binary(operation, left, right), 0x1FF);
        check.same("of x", ofX, d.bits(left, DEMANDED));
        check.same("of y", ofY, d.bits(right, DEMANDED));
    }

    private static void demandsOfAnd() {
        check.about("Terms", "AND: of x those of d not known 0 in y; "
                + "of y those of d not (known 0 in x and not known 0 in y).");
        asks(AND, "000111UUU", "01U01U01U", 0b011011011, 0b100111111);
        asks(AND, "0", "0", 0, 0x1FF);
        asks(AND, "0", "1", 0x1FF, 0);
        asks(AND, "1", "0", 0, 0x1FF);
        asks(AND, "1", "1", 0x1FF, 0x1FF);
        asks(AND, "U", "U", 0x1FF, 0x1FF);
    }

    private static void demandsOfOr() {
        check.about("Terms", "OR: likewise with known 1.");
        asks(OR, "111000UUU", "10U10U10U", 0b011011011, 0b100111111);
        asks(OR, "1", "1", 0, 0x1FF);
        asks(OR, "1", "0", 0x1FF, 0);
        asks(OR, "0", "1", 0, 0x1FF);
        asks(OR, "0", "0", 0x1FF, 0x1FF);
        asks(OR, "U", "U", 0x1FF, 0x1FF);
    }

    private static void demandsOfXorAndLoop() {
        check.about("Terms", "XOR, LOOP: d, of both.");
        asks(XOR, "000111UUU", "01U01U01U", 0x1FF, 0x1FF);
        int[] masks = {0, 1, 0x90, MIN, -1};
        for (int mask : masks) {
            DemandedBits d = withConstant(0);
            d.result(d.binary(XOR, 0, 1), mask);
            demanded(d, 0, mask);
            demanded(d, 1, mask);
            DemandedBits e = withConstant(0);
            int loop = e.loop(0);
            e.back(loop, 1);
            e.result(loop, mask);
            demanded(e, 0, mask);
            demanded(e, 1, mask);
        }
    }

    /** What a shift with these bits demanded asks for of x, and that it asks nobody else. */
    private static void shiftAsks(int operation, int distance, int d, int due) {
        DemandedBits e = new DemandedBits();
        e.input(1);
        e.input(0);
        e.result(e.shift(operation, 1, distance), d);
        check.same("by " + distance + ", of " + Integer.toHexString(d), due, e.bits(1, DEMANDED));
        check.same("of another", 0, e.bits(0, DEMANDED));
    }

    private static void demandsOfLeft() {
        check.about("Terms", "LEFT: of x bits i with i + k in d.");
        shiftAsks(LEFT, 0, -1, -1);
        shiftAsks(LEFT, 1, 1, 0);
        shiftAsks(LEFT, 1, 2, 1);
        shiftAsks(LEFT, 1, MIN, 0x40000000);
        shiftAsks(LEFT, 1, -1, MAX);
        shiftAsks(LEFT, 31, MIN, 1);
        shiftAsks(LEFT, 31, MAX, 0);
    }

    private static void demandsOfLogical() {
        check.about("Terms", "LOGICAL: bits i + k with i in d (up to 31).");
        shiftAsks(LOGICAL, 0, -1, -1);
        shiftAsks(LOGICAL, 1, MIN, 0);
        shiftAsks(LOGICAL, 1, 0x40000000, MIN);
        shiftAsks(LOGICAL, 1, 1, 2);
        shiftAsks(LOGICAL, 1, -1, -2);
        shiftAsks(LOGICAL, 31, 1, MIN);
        shiftAsks(LOGICAL, 31, -2, 0);
    }

    private static void demandsOfRight() {
        check.about("Terms", "RIGHT: these, and bit 31 if one of the highest k + 1 bits is in d.");
        shiftAsks(RIGHT, 0, 0, 0);
        shiftAsks(RIGHT, 0, MAX, MAX);
        shiftAsks(RIGHT, 0, MIN, MIN);
        shiftAsks(RIGHT, 1, 0x20000000, 0x40000000);
        shiftAsks(RIGHT, 1, 0x40000000, MIN);
        shiftAsks(RIGHT, 1, MIN, MIN);
        shiftAsks(RIGHT, 1, MIN | 1, MIN | 2);
        shiftAsks(RIGHT, 30, 1, 0x40000000);
        shiftAsks(RIGHT, 30, 2, MIN);
        shiftAsks(RIGHT, 30, 4, MIN);
        shiftAsks(RIGHT, 31, 1, MIN);
        shiftAsks(RIGHT, 31, MIN, MIN);
        shiftAsks(RIGHT, 31, 0, 0);
    }

    private static void demandsOfBytesAndShorts() {
        check.about("Terms", "BYTE, SHORT: those of d below bit 7 (15), and bit 7 (15) if it or one above it is in d.");
        extensionAsks(false, 0, 0);
        extensionAsks(false, 0x40, 0x40);
        extensionAsks(false, 0x80, 0x80);
        extensionAsks(false, 0x100, 0x80);
        extensionAsks(false, MIN, 0x80);
        extensionAsks(false, -1, 0xFF);
        extensionAsks(true, 0, 0);
        extensionAsks(true, 0x4000, 0x4000);
        extensionAsks(true, 0x8000, 0x8000);
        extensionAsks(true, 0x10000, 0x8000);
        extensionAsks(true, MIN, 0x8000);
        extensionAsks(true, -1, 0xFFFF);
    }

    private static void extensionAsks(boolean wide, int d, int due) {
        DemandedBits e = new DemandedBits();
        e.input(1);
        e.input(0);
        e.result(e.extend(1, wide), d);
        check.same("of " + Integer.toHexString(d), due, e.bits(1, DEMANDED));
        check.same("of another", 0, e.bits(0, DEMANDED));
    }
}
