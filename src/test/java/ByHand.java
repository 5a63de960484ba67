/** What the tests by hand have in common: short names, functions to begin with, and checks of one value. */
abstract class ByHand {
    static final int ADD = DemandedBits.ADD;
    static final int SUB = DemandedBits.SUB;
    static final int MUL = DemandedBits.MUL;
    static final int AND = DemandedBits.AND;
    static final int OR = DemandedBits.OR;
    static final int XOR = DemandedBits.XOR;
    static final int LEFT = DemandedBits.LEFT;
    static final int RIGHT = DemandedBits.RIGHT;
    static final int LOGICAL = DemandedBits.LOGICAL;
    static final int NONE = DemandedBits.NONE;
    static final int FIXED = DemandedBits.FIXED;

    // What bits() is asked for.
    static final int ZEROS = 0;
    static final int ONES = 1;
    static final int DEMANDED = 2;
    static final int WIDTH = 3;
    static final int SHORTER = 4;

    static final int MIN = Integer.MIN_VALUE;
    static final int MAX = Integer.MAX_VALUE;
    static final Class<IllegalArgumentException> ARGUMENT = IllegalArgumentException.class;
    static final Class<IllegalStateException> STATE = IllegalStateException.class;
    static final Class<IndexOutOfBoundsException> INDEX = IndexOutOfBoundsException.class;
    static final Check check = new Check();

    /** One of the calls that make a value. */
    interface Maker {
        int make(DemandedBits d);
    }

    /** Each way to make a value; all but the first three need value 0. */
    static final Maker[] MAKERS = {
        d -> d.input(0), d -> d.input(2), d -> d.constant(9),
        d -> d.binary(ADD, 0, 0), d -> d.binary(SUB, 0, 0), d -> d.binary(MUL, 0, 0),
        d -> d.binary(AND, 0, 0), d -> d.binary(OR, 0, 0), d -> d.binary(XOR, 0, 0),
        d -> d.shift(LEFT, 0, 1), d -> d.shift(RIGHT, 0, 1), d -> d.shift(LOGICAL, 0, 1),
        d -> d.extend(0, false), d -> d.extend(0, true), d -> d.loop(0)};

    /** So many constants, the numbers of the values themselves. */
    static DemandedBits constants(int count) {
        DemandedBits d = new DemandedBits();
        for (int c = 0; c < count; c++) {
            d.constant(c);
        }
        return d;
    }

    static DemandedBits full() {
        return constants(24);
    }

    /** Two unknown inputs, values 0 and 1, and a constant, value 2. */
    static DemandedBits withConstant(int c) {
        DemandedBits d = new DemandedBits();
        d.input(0);
        d.input(1);
        d.constant(c);
        return d;
    }

    /** The numbers next to 0 .. count - 1, and those farthest from them. */
    static int[] outside(int count) {
        return new int[] {-1, count, MIN, MAX};
    }

    /** A new value of which the bits set in unknown are not known, and the others are as in ones. */
    static int partly(DemandedBits d, int ones, int unknown) {
        int free = d.binary(AND, d.input(2), d.constant(unknown));
        return d.binary(OR, free, d.constant(ones));
    }

    /** Bits from the highest to bit 0: known 0, known 1 or U for unknown; all above the first are as the first. */
    static String spread(String bits) {
        return bits.substring(0, 1).repeat(32 - bits.length()) + bits;
    }

    /** A new value with these facts, in the form of spread. */
    static int partly(DemandedBits d, String bits) {
        int ones = 0;
        int unknown = 0;
        for (char bit : spread(bits).toCharArray()) {
            ones = ones << 1 | (bit == '1' ? 1 : 0);
            unknown = unknown << 1 | (bit == 'U' ? 1 : 0);
        }
        return partly(d, ones, unknown);
    }

    static void facts(DemandedBits d, int value, int zeros, int ones) {
        check.same("zeros of " + value, zeros, d.bits(value, ZEROS));
        check.same("ones of " + value, ones, d.bits(value, ONES));
    }

    static void facts(String what, DemandedBits d, int value, String due) {
        int zeros = d.bits(value, ZEROS);
        int ones = d.bits(value, ONES);
        StringBuilder bits = new StringBuilder();
        for (int i = 31; i >= 0; i--) {
            boolean zero = (zeros >>> i & 1) == 1;
            boolean one = (ones >>> i & 1) == 1;
            bits.append(zero && one ? '?' : zero ? '0' : one ? '1' : 'U');
        }
        check.same(what, spread(due), bits.toString());
    }

    static void demanded(DemandedBits d, int value, int due) {
        check.same("demanded of " + value, due, d.bits(value, DEMANDED));
    }
}
