/** The boundary sentences of promises 10 to 12, and of 'Terms' on what is replaced and live: a test for each. */
public final class AskingEdgesTest extends ByHand {
    public static void main(String[] args) {
        whatIsAsked();
        whatIsNot();
        allAndNoneKnown();
        allAndNoneDemanded();
        widths();
        widthsByDemandsAlone();
        demandedInTheShorter();
        fixedIfAllAreKnown();
        fixedWithoutDemands();
        fixedByItsOnes();
        constantsThemselves();
        constantsFirst();
        likeXByAnd();
        likeXByOr();
        likeXBySums();
        likeXByExtensions();
        neverLikeX();
        onlyIfYIsAConstant();
        asItIs();
        numbersOfX();
        chainsInTheShorter();
        liveByDemands();
        fixedOnesAskForNothing();
        likeXAsksForItsOwn();
        likeXAsksForItsOwnThere();
        othersAskByTheFacts();
        liveAtTheEnds();
        liveLoops();
        check.end();
    }

    private static void whatIsAsked() {
        check.about("Promise 10", "Of a value: 0 its ZEROS, 1 its ONES, 2 its DEMANDED bits, "
                + "3 the least of 8, 16 and 32 that is above all demanded bits (bits 0 .. 7, 0 .. 15), "
                + "4 its demanded bits in the SHORTER function.");
        DemandedBits d = new DemandedBits();
        int v = partly(d, 0x0F0, 0xF00);
        d.result(v, 0x1FE);
        int[] due = {0xFFFFF00F, 0x0F0, 0x1FE, 16, 0x1FE};
        for (int what = 0; what <= 4; what++) {
            check.same("what " + what, due[what], d.bits(v, what));
        }
    }

    private static void whatIsNot() {
        check.about("Promise 10", "IllegalArgument: what is not 0 .. 4.");
        DemandedBits d = withConstant(1);
        for (int what : outside(5)) {
            check.fails("what " + what, ARGUMENT, () -> d.bits(0, what));
            check.fails("what " + what + " of a constant", ARGUMENT, () -> d.bits(2, what));
        }
    }

    private static void allAndNoneKnown() {
        check.about("Promise 10", "0 its ZEROS, 1 its ONES", "all bits and no bits");
        DemandedBits d = withConstant(0);
        int ones = d.constant(-1);
        facts(d, 0, 0, 0);
        facts(d, 2, -1, 0);
        facts(d, ones, 0, -1);
        facts(d, d.binary(SUB, 2, 2), -1, 0);
        facts(d, d.binary(MUL, ones, ones), ~1, 1);
        facts(d, d.binary(AND, 0, 2), -1, 0);
        facts(d, d.binary(OR, 0, ones), 0, -1);
        facts(d, d.binary(XOR, 0, ones), 0, 0);
        facts(d, d.binary(ADD, 0, 2), 0, 0);
    }

    private static void allAndNoneDemanded() {
        check.about("Promise 10", "2 its DEMANDED bits", "all bits and no bits");
        DemandedBits d = withConstant(0);
        demanded(d, 0, 0);
        d.result(0, 0);
        demanded(d, 0, 0);
        d.result(0, MAX);
        demanded(d, 0, MAX);
        d.result(0, MIN);
        demanded(d, 0, -1);
        demanded(d, 1, 0);
        demanded(d, 2, 0);
    }

    private static void widths() {
        check.about("Promise 10", "3 the least of 8, 16 and 32 that is above all demanded bits (bits 0 .. 7, 0 .. 15)");
        int[] masks = {0, 1, 0x7F, 0x80, 0xFF, 0x100, 0x101, 0x7FFF, 0x8000, 0xFFFF, 0x10000, 0x10001, MAX, MIN, -1};
        int[] due = {8, 8, 8, 8, 8, 16, 16, 16, 16, 16, 32, 32, 32, 32, 32};
        for (int i = 0; i < masks.length; i++) {
            DemandedBits d = withConstant(0);
            d.result(0, masks[i]);
            check.same("of " + Integer.toHexString(masks[i]), due[i], d.bits(0, WIDTH));
            check.same("of another", 8, d.bits(1, WIDTH));
            check.same("of a constant", 8, d.bits(2, WIDTH));
        }
    }

    private static void widthsByDemandsAlone() {
        check.about("Promise 10", "3 the least of 8, 16 and 32 that is above all demanded bits",
                "not above those that are 1, and not in the shorter function");
        DemandedBits d = withConstant(-1);
        d.result(2, 0x80);
        check.same("a negative constant", 8, d.bits(2, WIDTH));
        // The width is that of the function as it is, also where the shorter one asks for less.
        DemandedBits e = withConstant(0);
        int none = e.binary(AND, 2, 2);
        int product = e.binary(MUL, 0, none);
        e.result(product, 0x10000);
        check.same("as it is", 32, e.bits(0, WIDTH));
        check.same("demanded in the shorter", 0, e.bits(0, SHORTER));
    }

    private static void demandedInTheShorter() {
        check.about("Promise 10", "4 its demanded bits in the SHORTER function.");
        DemandedBits d = withConstant(0xF0);
        int or = d.binary(OR, 0, 2);
        d.result(or, 0x0F);
        demanded(d, 2, 0x0F);
        check.same("y of what is x", 0, d.bits(2, SHORTER));
        check.same("x", 0x0F, d.bits(0, SHORTER));
        check.same("what is observed", 0x0F, d.bits(or, SHORTER));
        check.same("what nobody asks for", 0, d.bits(1, SHORTER));
        d.result(or, 0x10);
        check.same("y of what is itself", 0x1F, d.bits(2, SHORTER));
    }

    /** A value of which bits 4 .. 7 are known 1, bits 0 .. 3 and 8 .. 31 unknown; replaced for this mask. */
    private static int replacedOfPartly(int mask) {
        DemandedBits d = withConstant(0xF0);
        int v = d.binary(OR, 2, 0);
        d.result(v, mask);
        return d.replaced(v);
    }

    private static void fixedIfAllAreKnown() {
        check.about("Terms", "by a CONSTANT, its ones, if all its demanded bits are known");
        check.same("all of the known ones", FIXED, replacedOfPartly(0xF0));
        check.same("one of them", FIXED, replacedOfPartly(0x10));
        check.same("one below them", NONE, replacedOfPartly(0xF8));
        check.same("one above them", NONE, replacedOfPartly(0x1F0));
        check.same("one that is not known", NONE, replacedOfPartly(MIN));
        DemandedBits d = withConstant(0x0F);
        int zeros = d.binary(AND, 2, 0);
        d.result(zeros, ~0x0F);
        check.same("known zeros", FIXED, d.replaced(zeros));
        DemandedBits e = withConstant(0x0F);
        int loop = e.loop(2);
        e.result(loop, -1);
        check.same("a known loop", FIXED, e.replaced(loop));
        e.back(loop, e.constant(0x10F));
        check.same("a loop with one bit unknown", NONE, e.replaced(loop));
    }

    private static void fixedWithoutDemands() {
        check.about("Terms", "(so one without demanded bits is, too)");
        DemandedBits d = new DemandedBits();
        d.input(0);
        for (Maker maker : MAKERS) {
            int v = maker.make(d);
            check.same("without results", v == 3 ? NONE : FIXED, d.replaced(v));
        }
        d.result(5, 0);
        check.same("with a result of no bits", FIXED, d.replaced(5));
        check.same("an input", FIXED, d.replaced(0));
        d.result(0, 1);
        check.same("an input with one bit", NONE, d.replaced(0));
    }

    private static void fixedByItsOnes() {
        check.about("Terms", "by a CONSTANT, its ones");
        DemandedBits d = withConstant(0xF1);
        int or = d.binary(OR, 0, 2);
        d.result(or, 0x10);
        d.run(1, 0x70A, 9, 0);
        check.same("as it is", 0x7FB, d.value(or, false));
        check.same("all that are known 1, demanded or not", 0xF1, d.value(or, true));
        check.same("an input without demanded bits", 0, d.value(0, true));
        DemandedBits e = withConstant(3);
        int loop = e.loop(2);
        e.back(loop, e.constant(5));
        e.result(loop, 1);
        e.run(2, 0, 0, 0);
        check.same("a loop as it is", 5, e.value(loop, false));
        check.same("what is 1 in each round", 1, e.value(loop, true));
    }

    private static void constantsThemselves() {
        check.about("Terms", "unless it is a CONSTANT itself");
        int[] some = {0, 5, -1};
        int[] masks = {0, 4, -1};
        for (int c : some) {
            for (int mask : masks) {
                DemandedBits d = withConstant(c);
                check.same("without results", NONE, d.replaced(2));
                d.result(2, mask);
                check.same("with a result", NONE, d.replaced(2));
            }
        }
    }

    private static void constantsFirst() {
        check.about("Terms", "otherwise by x");
        // Each could be x for its demanded bits, but these are known.
        DemandedBits d = new DemandedBits();
        d.constant(0xFF);
        d.constant(0);
        d.result(d.binary(AND, 0, 0), 0xFF);
        d.result(d.binary(OR, 0, 1), -1);
        d.result(d.binary(ADD, 0, 1), -1);
        d.result(d.extend(0, false), 0xFF);
        for (int v = 2; v < 6; v++) {
            check.same("value " + v, FIXED, d.replaced(v));
        }
    }

    /** By what an operation on input 1, value 1, and a constant is replaced, if these bits of it are observed. */
    private static int replacedOf(int operation, int c, int mask) {
        DemandedBits d = withConstant(c);
        int v = d.binary(operation, 1, 2);
        d.result(v, mask);
        return d.replaced(v);
    }

    private static void likeXByAnd() {
        check.about("Terms", "AND, y is a CONSTANT and all its demanded bits are 1 in that");
        check.same("the same bits", 1, replacedOf(AND, 0xF0, 0xF0));
        check.same("some of them", 1, replacedOf(AND, 0xF0, 0x20));
        check.same("one below", NONE, replacedOf(AND, 0xF0, 0xF8));
        check.same("one above", NONE, replacedOf(AND, 0xF0, 0x1F0));
        check.same("all", 1, replacedOf(AND, -1, -1));
        check.same("the sign is 0", NONE, replacedOf(AND, MAX, -1));
        check.same("none of them", FIXED, replacedOf(AND, 0xF0, 0x0F));
    }

    private static void likeXByOr() {
        check.about("Terms", "OR, y is a CONSTANT and all of them are 0 in that");
        check.same("just the others", 1, replacedOf(OR, 0xF0, ~0xF0));
        check.same("one of its lowest", NONE, replacedOf(OR, 0xF0, 0x1F));
        check.same("one of its highest", NONE, replacedOf(OR, 0xF0, 0x180));
        check.same("all", 1, replacedOf(OR, 0, -1));
        check.same("the sign is 1", NONE, replacedOf(OR, MIN, -1));
        check.same("none of them", FIXED, replacedOf(OR, 0xF0, 0xF0));
    }

    private static void likeXBySums() {
        check.about("Terms", "ADD, SUB or XOR, y is a CONSTANT and all bits up to its demanded ones are 0 in that");
        int[] operations = {ADD, SUB, XOR};
        for (int operation : operations) {
            String what = "operation " + operation + ", ";
            check.same(what + "nothing", 1, replacedOf(operation, 0, -1));
            check.same(what + "just above", 1, replacedOf(operation, 0x100, 0x80));
            check.same(what + "at the highest", NONE, replacedOf(operation, 0x80, 0x80));
            check.same(what + "below, not demanded", NONE, replacedOf(operation, 0x01, 0x80));
            check.same(what + "just below, not demanded", NONE, replacedOf(operation, 0x40, 0x80));
            check.same(what + "above bit 0", 1, replacedOf(operation, -2, 1));
            check.same(what + "at bit 0", NONE, replacedOf(operation, -1, 1));
            check.same(what + "the sign above all others", 1, replacedOf(operation, MIN, MAX));
            check.same(what + "the sign", NONE, replacedOf(operation, MIN, MIN));
        }
    }

    private static void likeXByExtensions() {
        check.about("Terms", "BYTE or SHORT and none of them is above bit 7 (15)");
        int[] masks = {1, 0x80, 0xFF, 0x100, 0x180, 0x8000, 0xFFFF, 0x10000, MIN};
        int[] bytes = {0, 0, 0, NONE, NONE, NONE, NONE, NONE, NONE};
        int[] shorts = {0, 0, 0, 0, 0, 0, 0, NONE, NONE};
        for (int i = 0; i < masks.length; i++) {
            DemandedBits d = new DemandedBits();
            d.input(0);
            d.result(d.extend(0, false), masks[i]);
            d.result(d.extend(0, true), masks[i]);
            check.same("byte, " + masks[i], bytes[i], d.replaced(1));
            check.same("short, " + masks[i], shorts[i], d.replaced(2));
        }
    }

    private static void neverLikeX() {
        check.about("Terms", "otherwise by x if it is", "no other operation is");
        check.same("mul by 1", NONE, replacedOf(MUL, 1, -1));
        check.same("mul by 1 below bit 8", NONE, replacedOf(MUL, 0x101, 0x0F));
        DemandedBits d = withConstant(0);
        int[] some = {d.shift(LEFT, 1, 0), d.shift(RIGHT, 1, 0), d.shift(LOGICAL, 1, 0), d.loop(1)};
        for (int v : some) {
            d.result(v, -1);
        }
        for (int v : some) {
            check.same("value " + v, NONE, d.replaced(v));
        }
        check.same("an input", NONE, d.replaced(1));
        // A loop back to what would do as a y still has none.
        DemandedBits e = withConstant(0);
        int loop = e.loop(1);
        e.back(loop, 2);
        e.result(loop, 1);
        check.same("a loop back to a constant", NONE, e.replaced(loop));
    }

    private static void onlyIfYIsAConstant() {
        check.about("Terms", "y is a CONSTANT");
        int[] operations = {AND, OR, ADD, SUB, XOR};
        int[] neutral = {-1, 0, 0, 0, 0};
        for (int i = 0; i < operations.length; i++) {
            DemandedBits d = withConstant(neutral[i]);
            int known = d.loop(2);
            int swapped = d.binary(operations[i], 2, 0);
            int byKnown = d.binary(operations[i], 0, known);
            d.result(swapped, 0x81);
            d.result(byKnown, 0x81);
            check.same("x is the constant, " + operations[i], NONE, d.replaced(swapped));
            check.same("y is all known, " + operations[i], NONE, d.replaced(byKnown));
            check.same("y becomes a constant in the shorter", FIXED, d.replaced(known));
        }
    }

    private static void asItIs() {
        check.about("Terms", "A value is REPLACED, by the facts and demands of the function as it is");
        // Bit 8 of the byte is asked for only by a product that is fixed; in the shorter function nobody asks for it.
        DemandedBits d = withConstant(0);
        int low = d.extend(0, false);
        int product = d.binary(MUL, low, 2);
        d.result(product, 0x100);
        d.result(low, 0x0F);
        demanded(d, low, 0x1FF);
        check.same("its demanded bits in the shorter", 0x0F, d.bits(low, SHORTER));
        check.same("still not x", NONE, d.replaced(low));
        check.same("the product is fixed", FIXED, d.replaced(product));
        // By facts of a value that is x in the shorter function, where less would be known.
        DemandedBits e = withConstant(0x0F);
        int and = e.binary(AND, 0, 2);
        int high = e.shift(LOGICAL, and, 4);
        e.result(and, 0x0F);
        e.result(high, -1);
        check.same("above what was masked", FIXED, e.replaced(high));
    }

    private static void numbersOfX() {
        check.about("Promise 11", "the number of x, FIXED for a constant, NONE if it is not.");
        DemandedBits d = constants(22);
        int input = d.input(0);
        int last = d.extend(input, true);
        check.same("fixed without results", -2, d.replaced(last));
        d.result(last, 0x8000);
        check.same("x", 22, d.replaced(last));
        d.result(last, 0x10000);
        check.same("none", -1, d.replaced(last));
        DemandedBits e = new DemandedBits();
        e.input(0);
        e.result(e.extend(0, true), 1);
        check.same("x is value 0", 0, e.replaced(1));
        for (int none : outside(2)) {
            check.fails("no value", INDEX, () -> e.replaced(none));
        }
    }

    private static void chainsInTheShorter() {
        check.about("Terms", "In the SHORTER function each value that is replaced is this instead: a constant, "
                + "or the same as x is there.");
        DemandedBits d = withConstant(0x100);
        int first = d.extend(0, true);
        int second = d.binary(ADD, first, 2);
        int third = d.extend(second, false);
        d.result(third, 0x7F);
        d.result(d.binary(OR, third, 2), 0x100);
        check.same("the third is the second", second, d.replaced(third));
        check.same("the second is the first", first, d.replaced(second));
        check.same("the first is the input", 0, d.replaced(first));
        check.same("the last is fixed", FIXED, d.replaced(6));
        d.run(1, 0x12345678, 0, 0);
        for (int v = first; v <= third; v++) {
            check.same("value " + v + " is the input", 0x12345678, d.value(v, true));
        }
        check.same("as it is", 0x78, d.value(third, false));
        check.same("the constant", 0x100, d.value(6, true));
        // x is a constant there, and so is what is x.
        DemandedBits e = withConstant(0xF0);
        int or = e.binary(OR, 2, 0);
        int copy = e.extend(or, false);
        e.result(copy, 0x10);
        check.same("its bit is known, so it is fixed itself", FIXED, e.replaced(copy));
        e.run(1, 0xF0F, 0, 0);
        check.same("its own ones", 0xFFFFFFF0, e.value(copy, true));
        check.same("the ones of x", 0xF0, e.value(or, true));
    }

    private static void liveByDemands() {
        check.about("Terms", "A value is LIVE there if bits of it are demanded");
        DemandedBits d = withConstant(0);
        check.same("none observed", 0, d.live());
        d.result(0, 0);
        check.same("no bits observed", 0, d.live());
        d.result(0, MIN);
        check.same("one bit observed", 1, d.live());
        d.result(2, 1);
        check.same("a constant is live, too", 2, d.live());
        d.result(0, -1);
        check.same("a value counts once", 2, d.live());
    }

    private static void fixedOnesAskForNothing() {
        check.about("Terms", "one replaced by a constant asking for nothing");
        DemandedBits d = withConstant(0);
        int product = d.binary(MUL, 0, 2);
        int loop = d.loop(product);
        d.back(loop, product);
        d.result(loop, -1);
        demanded(d, 0, -1);
        check.same("the loop", FIXED, d.replaced(loop));
        check.same("bits of the loop", -1, d.bits(loop, SHORTER));
        check.same("bits of the product", 0, d.bits(product, SHORTER));
        check.same("bits of the input", 0, d.bits(0, SHORTER));
        check.same("the loop alone", 1, d.live());
    }

    private static void likeXAsksForItsOwn() {
        check.about("Terms", "one replaced by x for its own demanded bits of x");
        DemandedBits d = withConstant(0x100);
        int sum = d.binary(ADD, 0, 2);
        d.result(sum, 0x80);
        demanded(d, 0, 0xFF);
        demanded(d, 2, 0xFF);
        check.same("not those up to them", 0x80, d.bits(0, SHORTER));
        check.same("none of y", 0, d.bits(2, SHORTER));
        check.same("the sum and x", 2, d.live());
        DemandedBits e = withConstant(0);
        int twice = e.binary(XOR, 0, 2);
        e.result(twice, 0x11);
        check.same("of x", 0x11, e.bits(0, SHORTER));
        check.same("of y", 0, e.bits(2, SHORTER));
    }

    private static void likeXAsksForItsOwnThere() {
        check.about("Terms", "one replaced by x for its own demanded bits of x",
                "those that it has in the shorter function");
        DemandedBits d = withConstant(0);
        int copy = d.extend(0, true);
        int gone = d.binary(MUL, copy, 2);
        d.result(gone, 0x800);
        d.result(copy, 0x10);
        demanded(d, copy, 0xFFF);
        demanded(d, 0, 0xFFF);
        check.same("the copy is x", 0, d.replaced(copy));
        check.same("the product is fixed", FIXED, d.replaced(gone));
        check.same("bits of the copy", 0x10, d.bits(copy, SHORTER));
        check.same("bits of x", 0x10, d.bits(0, SHORTER));
    }

    private static void othersAskByTheFacts() {
        check.about("Terms", "all others for what they ask for by the facts of the function as it is.");
        // Bit 4 of low is known 0, so that it is asked for of low alone.
        DemandedBits d = withConstant(0x0F);
        int low = d.binary(AND, 0, 2);
        int both = d.binary(AND, low, 1);
        d.result(both, 0x1E);
        check.same("low is itself, by bit 4", NONE, d.replaced(low));
        demanded(d, 1, 0x0E);
        check.same("of the other one", 0x0E, d.bits(1, SHORTER));
        check.same("of low", 0x1E, d.bits(low, SHORTER));
        check.same("of the input", 0x0E, d.bits(0, SHORTER));
        check.same("of the constant", 0x1E, d.bits(2, SHORTER));
        check.same("all five", 5, d.live());
    }

    private static void liveAtTheEnds() {
        check.about("Promise 12", "How many values are LIVE in the SHORTER function.");
        check.same("of no values", 0, new DemandedBits().live());
        check.same("of values without results", 0, full().live());
        DemandedBits d = new DemandedBits();
        d.input(0);
        d.input(1);
        for (int v = 2; v < 24; v++) {
            d.binary(XOR, v - 1, v - 2);
        }
        d.result(23, 1);
        check.same("of all 24", 24, d.live());
        DemandedBits e = new DemandedBits();
        e.input(0);
        for (int v = 1; v < 24; v++) {
            e.shift(LEFT, v - 1, 1);
        }
        e.result(23, 1 << 23);
        check.same("of all 24, one bit each", 24, e.live());
        e.result(22, 1);
        check.same("a known bit more changes nothing", 24, e.live());
    }

    private static void liveLoops() {
        check.about("Promise 12", "How many values are LIVE in the SHORTER function.", "loops with their back values");
        DemandedBits d = withConstant(1);
        int loop = d.loop(0);
        int next = d.binary(ADD, loop, 2);
        d.result(1, 1);
        d.back(loop, next);
        check.same("a loop that nobody asks for", 1, d.live());
        d.result(loop, 1);
        check.same("with its back value behind it, x and the step", 5, d.live());
        d.back(loop, 1);
        check.same("with its back value before it", 3, d.live());
        d.back(loop, loop);
        check.same("with itself", 3, d.live());
        d.back(loop, 0);
        check.same("with x", 3, d.live());
    }
}
