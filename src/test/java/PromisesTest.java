/** Each promise by hand: ordinary inputs, the edges that the document names, and wrong inputs. */
public final class PromisesTest extends ByHand {
    public static void main(String[] args) {
        newObject();
        inputs();
        constants();
        binaries();
        bitwise();
        sums();
        products();
        shifts();
        extensions();
        loops();
        factsOfLoops();
        backs();
        results();
        bitsOfValues();
        demandsOfSums();
        demandsOfAndOr();
        demandsOfMoves();
        demandsOfLoops();
        replacedByConstants();
        replacedByX();
        liveOnes();
        demandsInTheShorter();
        runs();
        runsOfLoops();
        runsOfTheShorter();
        observedResults();
        valuesOfRuns();
        fullFunctions();
        check.end();
    }

    // Promise 1.
    private static void newObject() {
        DemandedBits d = new DemandedBits();
        check.same("live of none", 0, d.live());
        check.fails("a value of none", INDEX, () -> d.value(0, false));
        check.fails("a result of none", INDEX, () -> d.observed(0, true));
        check.fails("bits of none", INDEX, () -> d.bits(0, 0));
        check.fails("replaced of none", INDEX, () -> d.replaced(0));
        check.same("a run of none", 0, d.run(50, 1, 2, 3));
        DemandedBits other = new DemandedBits();
        check.same("the first value", 0, d.constant(5));
        check.same("the first result", 0, d.result(0, 4));
        check.same("made behind the run", 0, d.observed(0, false));
        check.fails("objects have nothing in common", INDEX, () -> other.bits(0, 0));
    }

    // Promise 2.
    private static void inputs() {
        DemandedBits d = new DemandedBits();
        check.fails("input -1", ARGUMENT, () -> d.input(-1));
        check.fails("input 3", ARGUMENT, () -> d.input(3));
        for (int k = 0; k < 3; k++) {
            check.same("number of input", k, d.input(k));
            facts(d, k, 0, 0);
        }
        check.same("the same input again", 3, d.input(1));
        d.run(1, 11, 22, 33);
        check.same("input 0", 11, d.value(0, false));
        check.same("input 1", 22, d.value(1, false));
        check.same("input 2", 33, d.value(2, false));
        check.same("input 1 again", 22, d.value(3, false));
        check.fails("input in a full one", STATE, () -> full().input(0));
        check.fails("wrong input in a full one", ARGUMENT, () -> full().input(3));
    }

    // Promise 3.
    private static void constants() {
        DemandedBits d = new DemandedBits();
        int[] some = {0, 1, -1, MIN, MAX};
        for (int i = 0; i < some.length; i++) {
            check.same("number of constant", i, d.constant(some[i]));
            facts(d, i, ~some[i], some[i]);
            check.same("a constant is not replaced", NONE, d.replaced(i));
        }
        d.run(2, 0, 0, 0);
        for (int i = 0; i < some.length; i++) {
            check.same("constant", some[i], d.value(i, false));
            check.same("constant in the shorter", some[i], d.value(i, true));
        }
        check.fails("constant in a full one", STATE, () -> full().constant(0));
    }

    // Promise 4.
    private static void binaries() {
        DemandedBits d = new DemandedBits();
        d.input(0);
        d.input(1);
        check.fails("operation -1", ARGUMENT, () -> d.binary(-1, 0, 1));
        check.fails("operation 6", ARGUMENT, () -> d.binary(6, 9, 9));
        check.fails("x -1", INDEX, () -> d.binary(0, -1, 0));
        check.fails("y -1", INDEX, () -> d.binary(0, 0, -1));
        check.fails("x is itself", INDEX, () -> d.binary(0, 2, 0));
        check.fails("y is itself", INDEX, () -> d.binary(5, 0, 2));
        for (int operation = 0; operation < 6; operation++) {
            check.same("number of binary", 2 + operation, d.binary(operation, 0, 1));
        }
        d.run(1, MIN + 5, -3, 0);
        int[] due = {MIN + 2, MIN + 8, MIN - 15, MIN + 5, -3, MAX - 7};
        for (int operation = 0; operation < 6; operation++) {
            check.same("operation " + operation, due[operation], d.value(2 + operation, false));
        }
        check.fails("binary in a full one", STATE, () -> full().binary(0, 0, 23));
        check.fails("no operand in a full one", INDEX, () -> full().binary(0, 0, 24));
        check.fails("no operation in a full one", ARGUMENT, () -> full().binary(6, 0, 24));
    }

    private static void bitwise() {
        DemandedBits d = new DemandedBits();
        // By hexadecimal digits, from the left, U being unknown: x is 0 0 0 F F F U U, y is 0 F U 0 F U 0 F.
        int x = partly(d, 0x000FFF00, 0x000000FF);
        int y = partly(d, 0x0F00F00F, 0x00F00F00);
        facts(d, d.binary(AND, x, y), 0xFFFF00F0, 0x0000F000);
        facts(d, d.binary(AND, y, x), 0xFFFF00F0, 0x0000F000);
        facts(d, d.binary(OR, x, y), 0xF0000000, 0x0F0FFF0F);
        facts(d, d.binary(OR, y, x), 0xF0000000, 0x0F0FFF0F);
        facts(d, d.binary(XOR, x, y), 0xF000F000, 0x0F0F0000);
        facts(d, d.binary(XOR, y, x), 0xF000F000, 0x0F0F0000);
    }

    private static void sums() {
        DemandedBits d = new DemandedBits();
        int x = partly(d, 0x3, 0x8);
        int y = partly(d, 0x1, 0x20);
        // 0011 + 0001 is 0100, and bits 3 and 5 are free.
        facts(d, d.binary(ADD, x, y), ~0x2C, 0x4);
        DemandedBits e = new DemandedBits();
        int low = partly(e, 0x5, 0xF0);
        int three = e.constant(3);
        // 0101 + 0011 is 1000 with no carry; the free bits 4 .. 7 take nothing in.
        facts(e, e.binary(ADD, low, three), ~0xF8, 0x8);
        // 0101 - 0011 is 0010, and the free bits lend nothing.
        facts(e, e.binary(SUB, low, three), ~0xF2, 0x2);
        // 0011 - 0101 is 1110 and borrows, so that all above the free bits is 1.
        facts(e, e.binary(SUB, three, low), 0x1, 0xFFFFFF0E);
        DemandedBits f = withConstant(1);
        int itself = f.binary(SUB, 0, 0);
        facts(f, itself, 0, 0);
        int and = f.binary(AND, 0, 2);
        facts(f, f.binary(ADD, and, and), ~0x3, 0);
        int odd = f.binary(OR, 0, 2);
        facts(f, f.binary(ADD, odd, odd), 0x1, 0);
        facts(f, f.binary(ADD, f.constant(-1), 2), -1, 0);
        facts(f, f.binary(XOR, odd, 2), 0x1, 0);
        facts(f, f.binary(XOR, and, 2), ~0x1, 0);
        facts(f, f.binary(XOR, and, f.constant(6)), ~0x7, 0x6);
    }

    private static void products() {
        DemandedBits d = withConstant(0);
        facts(d, d.binary(MUL, 0, 1), 0, 0);
        facts(d, d.binary(MUL, 0, 2), -1, 0);
        int low = partly(d, 0x5, ~0xF);
        int seven = d.constant(7);
        // 5 * 7 is 35, which ends in 0011.
        facts(d, d.binary(MUL, low, seven), 0xC, 0x3);
        int far = d.shift(LEFT, 0, 20);
        int also = d.shift(LEFT, 1, 11);
        facts(d, d.binary(MUL, far, also), 0x7FFFFFFF, 0);
        facts(d, d.binary(MUL, far, far), -1, 0);
        DemandedBits e = withConstant(0x10008);
        // The lowest three bits of both are known, and the zeros of both make six.
        int x = partly(e, 0x0, ~0x7);
        facts(e, e.binary(MUL, x, 2), 0x3F, 0);
        facts(e, e.binary(MUL, 2, 2), ~0x100040, 0x100040);
        facts(e, e.binary(MUL, e.constant(-1), e.constant(-1)), ~1, 1);
    }

    // Promise 5.
    private static void shifts() {
        DemandedBits d = new DemandedBits();
        d.input(0);
        check.fails("operation -1", ARGUMENT, () -> d.shift(-1, 0, 0));
        check.fails("operation 3", ARGUMENT, () -> d.shift(3, 0, 0));
        check.fails("distance -1", ARGUMENT, () -> d.shift(0, 5, -1));
        check.fails("distance 32", ARGUMENT, () -> d.shift(0, 5, 32));
        check.fails("x -1", INDEX, () -> d.shift(1, -1, 0));
        check.fails("x is itself", INDEX, () -> d.shift(2, 1, 31));
        check.same("number of shift", 1, d.shift(LEFT, 0, 4));
        d.shift(RIGHT, 0, 4);
        d.shift(LOGICAL, 0, 4);
        d.shift(LEFT, 0, 31);
        d.shift(RIGHT, 0, 31);
        d.shift(LOGICAL, 0, 31);
        d.shift(LEFT, 0, 0);
        facts(d, 1, 0xF, 0);
        facts(d, 2, 0, 0);
        facts(d, 3, 0xF0000000, 0);
        facts(d, 4, 0x7FFFFFFF, 0);
        facts(d, 6, ~1, 0);
        facts(d, 7, 0, 0);
        int partly = partly(d, 0x80000030, 0x00000F00);
        facts(d, d.shift(LEFT, partly, 4), ~0xF300, 0x300);
        facts(d, d.shift(RIGHT, partly, 4), ~0xF80000F3, 0xF8000003);
        facts(d, d.shift(LOGICAL, partly, 4), ~0x080000F3, 0x08000003);
        d.run(1, 0x80000123, 0, 0);
        int[] due = {0x80000123, 0x1230, 0xF8000012, 0x08000012, MIN, -1, 1, 0x80000123};
        for (int v = 0; v < due.length; v++) {
            check.same("shifted " + v, due[v], d.value(v, false));
        }
        check.fails("shift in a full one", STATE, () -> full().shift(0, 0, 0));
        check.fails("no operand in a full one", INDEX, () -> full().shift(0, 24, 0));
        check.fails("no distance in a full one", ARGUMENT, () -> full().shift(0, 24, 32));
    }

    // Promise 6.
    private static void extensions() {
        DemandedBits d = new DemandedBits();
        check.fails("extend nothing", INDEX, () -> d.extend(0, true));
        d.input(0);
        check.fails("x -1", INDEX, () -> d.extend(-1, false));
        check.same("number of byte", 1, d.extend(0, false));
        check.same("number of short", 2, d.extend(0, true));
        d.run(1, 0x12348081, 0, 0);
        check.same("byte", 0xFFFFFF81, d.value(1, false));
        check.same("short", 0xFFFF8081, d.value(2, false));
        d.run(1, 0xFFFF7F7F, 0, 0);
        check.same("byte above 0", 0x7F, d.value(1, false));
        check.same("short above 0", 0x7F7F, d.value(2, false));
        int x = partly(d, 0x8080, 0xFF000011);
        facts(d, d.extend(x, false), 0x6E, 0xFFFFFF80);
        facts(d, d.extend(x, true), 0x7F6E, 0xFFFF8080);
        int free = partly(d, 0, 0x8080);
        facts(d, d.extend(free, false), 0x7F, 0);
        facts(d, d.extend(free, true), 0x7F7F, 0);
        check.fails("extend in a full one", STATE, () -> full().extend(0, false));
        check.fails("no operand in a full one", INDEX, () -> full().extend(24, false));
    }

    // Promise 7.
    private static void loops() {
        DemandedBits d = new DemandedBits();
        check.fails("a loop of nothing", INDEX, () -> d.loop(0));
        d.constant(12);
        check.fails("x -1", INDEX, () -> d.loop(-1));
        check.same("number of loop", 1, d.loop(0));
        facts(d, 1, ~12, 12);
        d.run(7, 0, 0, 0);
        check.same("a loop back to itself stays x", 12, d.value(1, false));
        check.fails("loop in a full one", STATE, () -> full().loop(0));
        check.fails("no operand in a full one", INDEX, () -> full().loop(24));
    }

    private static void factsOfLoops() {
        DemandedBits d = new DemandedBits();
        d.constant(1);
        int doubled = d.loop(0);
        int next = d.shift(LEFT, doubled, 1);
        d.back(doubled, next);
        facts(d, doubled, 0, 0);
        facts(d, next, 1, 0);
        DemandedBits e = new DemandedBits();
        e.constant(0x33);
        int both = e.loop(0);
        e.constant(0x55);
        e.back(both, 2);
        facts(e, both, ~0x77, 0x11);
        // A loop whose x is known only by another loop, which loses it in its turn.
        DemandedBits f = new DemandedBits();
        f.constant(8);
        int outer = f.loop(0);
        int inner = f.loop(outer);
        int four = f.constant(4);
        int sum = f.binary(ADD, inner, four);
        f.back(inner, sum);
        f.back(outer, inner);
        facts(f, outer, 0x3, 0);
        facts(f, inner, 0x3, 0);
        f.back(inner, inner);
        facts(f, outer, ~8, 8);
        facts(f, sum, ~12, 12);
    }

    // Promise 8.
    private static void backs() {
        DemandedBits d = new DemandedBits();
        d.constant(0);
        d.loop(0);
        d.constant(3);
        d.binary(ADD, 1, 2);
        check.fails("no loop", ARGUMENT, () -> d.back(0, 1));
        check.fails("no loop but a sum", ARGUMENT, () -> d.back(3, 3));
        check.fails("loop -1", INDEX, () -> d.back(-1, 0));
        check.fails("loop 4", INDEX, () -> d.back(4, 0));
        check.fails("value -1", INDEX, () -> d.back(1, -1));
        check.fails("value 4", INDEX, () -> d.back(1, 4));
        check.fails("no loop and no value", INDEX, () -> d.back(0, 4));
        d.run(3, 0, 0, 0);
        check.same("what throws changes nothing", 0, d.value(1, false));
        d.back(1, 3);
        check.same("back runs nothing", 0, d.value(1, false));
        d.run(3, 0, 0, 0);
        check.same("the sum comes back", 6, d.value(1, false));
        d.back(1, 2);
        d.run(3, 0, 0, 0);
        check.same("another comes back", 3, d.value(1, false));
    }

    // Promise 9.
    private static void results() {
        DemandedBits d = new DemandedBits();
        check.fails("a result of nothing", INDEX, () -> d.result(0, 0));
        d.input(0);
        check.fails("value -1", INDEX, () -> d.result(-1, 0));
        int[] masks = {0x1, 0x10, 0, MIN};
        for (int r = 0; r < 4; r++) {
            check.same("number of result", r, d.result(0, masks[r]));
        }
        check.fails("a fifth result", STATE, () -> d.result(0, 1));
        check.fails("a fifth result of nothing", INDEX, () -> d.result(1, 1));
        demanded(d, 0, MIN | 0x11);
        d.run(1, -1, 0, 0);
        for (int r = 0; r < 4; r++) {
            check.same("result", masks[r], d.observed(r, false));
        }
        DemandedBits all = full();
        check.same("a result in a full one", 0, all.result(23, -1));
    }

    // Promise 10.
    private static void bitsOfValues() {
        DemandedBits d = new DemandedBits();
        d.input(0);
        check.fails("what -1", ARGUMENT, () -> d.bits(0, -1));
        check.fails("what 5", ARGUMENT, () -> d.bits(0, 5));
        check.fails("value -1", INDEX, () -> d.bits(-1, 0));
        check.fails("no value and no such bits", INDEX, () -> d.bits(1, 5));
        int[] masks = {0, 0x80, 0x100, 0x8000, 0x10000, MIN, 1};
        int[] widths = {8, 8, 16, 16, 32, 32, 8};
        for (int i = 0; i < masks.length; i++) {
            DemandedBits e = new DemandedBits();
            e.input(0);
            e.result(0, masks[i]);
            demanded(e, 0, masks[i]);
            check.same("width of " + masks[i], widths[i], e.bits(0, WIDTH));
            check.same("demanded in the shorter", masks[i], e.bits(0, SHORTER));
        }
    }

    private static void demandsOfSums() {
        int[] masks = {0, 0x1, 0x48, MIN};
        int[] upTo = {0, 0x1, 0x7F, -1};
        for (int operation = ADD; operation <= MUL; operation++) {
            for (int i = 0; i < masks.length; i++) {
                DemandedBits d = withConstant(0);
                d.result(d.binary(operation, 0, 1), masks[i]);
                demanded(d, 0, upTo[i]);
                demanded(d, 1, upTo[i]);
                demanded(d, 2, 0);
            }
        }
        DemandedBits d = withConstant(0);
        d.result(d.binary(XOR, 0, 1), 0x48);
        demanded(d, 0, 0x48);
        demanded(d, 1, 0x48);
    }

    private static void demandsOfAndOr() {
        DemandedBits d = withConstant(0x0F);
        d.result(d.binary(AND, 0, 2), 0x3C);
        demanded(d, 0, 0x0C);
        demanded(d, 2, 0x3C);
        DemandedBits e = withConstant(0x0F);
        e.result(e.binary(AND, 2, 0), 0x3C);
        demanded(e, 2, 0x3C);
        demanded(e, 0, 0x0C);
        DemandedBits f = withConstant(0x0F);
        f.result(f.binary(OR, 0, 2), 0x3C);
        demanded(f, 0, 0x30);
        demanded(f, 2, 0x3C);
        DemandedBits g = withConstant(0x0F);
        g.result(g.binary(OR, 2, 0), 0x3C);
        demanded(g, 2, 0x3C);
        demanded(g, 0, 0x30);
        // Where both are known, it is y that is asked.
        DemandedBits h = new DemandedBits();
        h.constant(0x33);
        h.constant(0x55);
        h.result(h.binary(AND, 0, 1), 0xFF);
        demanded(h, 0, 0x55);
        demanded(h, 1, 0x33 | 0xAA);
        DemandedBits i = new DemandedBits();
        i.constant(0x33);
        i.constant(0x55);
        i.result(i.binary(OR, 0, 1), 0xFF);
        demanded(i, 0, 0xAA);
        demanded(i, 1, 0xCC | 0x55);
    }

    private static void demandsOfMoves() {
        moved(LEFT, 4, 0x8000001F, 0x08000001);
        moved(LEFT, 31, -1, 1);
        moved(LEFT, 0, 0x81, 0x81);
        moved(LOGICAL, 4, 0x18000001, 0x80000010);
        moved(LOGICAL, 4, 0xF0000000, 0);
        moved(LOGICAL, 31, 1, MIN);
        moved(RIGHT, 4, 0x10000001, MIN | 0x10);
        moved(RIGHT, 4, 0x08000000, MIN);
        moved(RIGHT, 4, 0x04000000, 0x40000000);
        moved(RIGHT, 4, MIN | 2, MIN | 0x20);
        moved(RIGHT, 31, 0x100, MIN);
        moved(RIGHT, 0, 0x40000000, 0x40000000);
        moved(RIGHT, 7, 0, 0);
        extended(false, 0x7F, 0x7F);
        extended(false, 0x80, 0x80);
        extended(false, 0x102, 0x82);
        extended(false, MIN, 0x80);
        extended(false, 0, 0);
        extended(true, 0x7F80, 0x7F80);
        extended(true, 0x8000, 0x8000);
        extended(true, 0x10001, 0x8001);
        extended(true, 0, 0);
    }

    private static void moved(int operation, int distance, int mask, int due) {
        DemandedBits d = new DemandedBits();
        // Behind a first value, so that a demand that goes astray is seen there.
        d.input(1);
        d.input(0);
        d.result(d.shift(operation, 1, distance), mask);
        demanded(d, 1, due);
        demanded(d, 0, 0);
    }

    private static void extended(boolean wide, int mask, int due) {
        DemandedBits d = new DemandedBits();
        d.input(1);
        d.input(0);
        d.result(d.extend(1, wide), mask);
        demanded(d, 1, due);
        demanded(d, 0, 0);
    }

    private static void demandsOfLoops() {
        DemandedBits d = withConstant(2);
        int loop = d.loop(0);
        int next = d.shift(LOGICAL, loop, 8);
        d.back(loop, next);
        d.result(loop, 0x1);
        demanded(d, next, 0x01010101);
        demanded(d, loop, 0x01010101);
        demanded(d, 0, 0x01010101);
        demanded(d, 1, 0);
        d.back(loop, 1);
        demanded(d, 1, 0x1);
        demanded(d, loop, 0x1);
        demanded(d, next, 0);
        DemandedBits e = withConstant(2);
        int unseen = e.loop(0);
        e.back(unseen, e.binary(ADD, unseen, 1));
        e.result(1, -1);
        demanded(e, unseen, 0);
        demanded(e, 0, 0);
    }

    // Promise 11.
    private static void replacedByConstants() {
        DemandedBits d = withConstant(0xF0);
        check.fails("value -1", INDEX, () -> d.replaced(-1));
        check.fails("value 3", INDEX, () -> d.replaced(3));
        check.same("without demanded bits", FIXED, d.replaced(0));
        check.same("a constant without demanded bits", NONE, d.replaced(2));
        int or = d.binary(OR, 0, 2);
        d.result(or, 0x30);
        check.same("all demanded bits known", FIXED, d.replaced(or));
        d.result(or, 0x1);
        check.same("one of them not known", NONE, d.replaced(or));
        check.same("an input with demanded bits", NONE, d.replaced(0));
        check.same("a constant with demanded bits", NONE, d.replaced(2));
        DemandedBits e = withConstant(5);
        int loop = e.loop(2);
        e.result(loop, -1);
        check.same("a loop that is known", FIXED, e.replaced(loop));
        e.run(3, 9, 9, 9);
        check.same("its ones, all of them", 5, e.value(loop, true));
        e.back(loop, 0);
        check.same("a loop that is not", NONE, e.replaced(loop));
    }

    private static int replacedOf(int operation, int c, int mask) {
        DemandedBits d = withConstant(c);
        d.result(d.binary(operation, 1, 2), mask);
        return d.replaced(3);
    }

    private static void replacedByX() {
        check.same("and", 1, replacedOf(AND, 0xFF, 0x81));
        check.same("and with a 0", NONE, replacedOf(AND, 0xFF, 0x181));
        check.same("or", 1, replacedOf(OR, 0xFF, 0x100));
        check.same("or with a 1", NONE, replacedOf(OR, 0xFF, 0x180));
        int[] kinds = {ADD, SUB, XOR};
        for (int kind : kinds) {
            check.same("above all demanded", 1, replacedOf(kind, 0x100, 0x80));
            check.same("a 1 at the highest", NONE, replacedOf(kind, 0x100, 0x100));
            check.same("a 1 below the highest", NONE, replacedOf(kind, 0x40, 0x80));
            check.same("nothing", 1, replacedOf(kind, 0, -1));
        }
        check.same("mul is not", NONE, replacedOf(MUL, 1, -1));
        check.same("mul by what is above", NONE, replacedOf(MUL, 0x101, 1));
        DemandedBits d = withConstant(-1);
        d.result(d.binary(AND, 2, 0), 1);
        check.same("x is the constant", NONE, d.replaced(3));
        DemandedBits e = withConstant(-1);
        int known = e.loop(2);
        e.result(e.binary(AND, 0, known), 1);
        check.same("y is known but no constant", NONE, e.replaced(4));
        int[] masks = {0x80, 0x100, 0x8000, 0x10000};
        int[] narrow = {1, NONE, NONE, NONE};
        int[] wide = {1, 1, 1, NONE};
        for (int i = 0; i < masks.length; i++) {
            DemandedBits f = withConstant(0);
            f.result(f.extend(1, false), masks[i]);
            f.result(f.extend(1, true), masks[i]);
            check.same("byte " + i, narrow[i], f.replaced(3));
            check.same("short " + i, wide[i], f.replaced(4));
        }
        DemandedBits g = new DemandedBits();
        g.constant(0);
        g.input(0);
        g.result(g.shift(LEFT, 1, 0), -1);
        check.same("a shift by 0 is not", NONE, g.replaced(2));
    }

    // Promise 12.
    private static void liveOnes() {
        DemandedBits d = withConstant(0xF0);
        check.same("nothing observed", 0, d.live());
        int or = d.binary(OR, 0, 2);
        d.result(or, 0x30);
        check.same("a constant alone", 1, d.live());
        d.result(or, 0x1);
        check.same("both operands and the value", 3, d.live());
        d.result(1, 0);
        check.same("nothing observed of it", 3, d.live());
        DemandedBits e = withConstant(0xF0);
        e.result(e.binary(OR, 0, 2), 0x1);
        check.same("x and its copy", 2, e.live());
    }

    private static void demandsInTheShorter() {
        DemandedBits d = withConstant(0xF0);
        int or = d.binary(OR, 0, 2);
        int sum = d.binary(ADD, or, 1);
        d.result(sum, 0x8);
        // The function as it is asks y for what x does not settle; its copy of x asks for nothing of y.
        demanded(d, 2, 0xF);
        check.same("y in the shorter", 0, d.bits(2, SHORTER));
        check.same("x in the shorter", 0xF, d.bits(0, SHORTER));
        check.same("the copy in the shorter", 0xF, d.bits(or, SHORTER));
        check.same("a sum in the shorter", 0x8, d.bits(sum, SHORTER));
        check.same("live", 4, d.live());
        // A copy asks for its own demanded bits there, which are fewer when who asked for them is gone.
        DemandedBits e = withConstant(0x100);
        int copy = e.extend(0, true);
        int zero = e.binary(SUB, e.constant(7), e.constant(7));
        int gone = e.binary(MUL, copy, zero);
        e.result(gone, 0xF);
        e.result(copy, 0x100);
        demanded(e, copy, 0x10F);
        check.same("gone", FIXED, e.replaced(gone));
        check.same("copy", 0, e.replaced(copy));
        check.same("of the copy", 0x100, e.bits(copy, SHORTER));
        check.same("of x", 0x100, e.bits(0, SHORTER));
        check.same("of what is gone", 0xF, e.bits(gone, SHORTER));
        check.same("of what it asked", 0, e.bits(zero, SHORTER));
        check.same("three are live", 3, e.live());
    }

    // Promise 13.
    private static void runs() {
        DemandedBits d = withConstant(0xF0);
        check.fails("no rounds", ARGUMENT, () -> d.run(0, 0, 0, 0));
        check.fails("51 rounds", ARGUMENT, () -> d.run(51, 0, 0, 0));
        check.fails("-1 rounds", ARGUMENT, () -> d.run(-1, 0, 0, 0));
        check.same("inputs that nobody asks for are 0", 2, d.run(1, 1, 2, 3));
        check.same("as it is", 1, d.value(0, false));
        check.same("shorter", 0, d.value(0, true));
        check.same("and no other value if they are 0", 0, d.run(50, 0, 0, 3));
        d.run(1, 4, 5, 6);
        check.fails("51 rounds", ARGUMENT, () -> d.run(51, 7, 8, 9));
        check.same("what throws runs nothing", 4, d.value(0, false));
    }

    private static void runsOfLoops() {
        DemandedBits d = withConstant(3);
        int sum = d.loop(0);
        int next = d.binary(ADD, sum, 2);
        d.back(sum, next);
        int swapped = d.loop(1);
        int other = d.loop(2);
        d.back(swapped, other);
        d.back(other, swapped);
        int late = d.loop(1);
        d.back(late, sum);
        d.run(1, 100, 7, 0);
        check.same("round 0", 100, d.value(sum, false));
        check.same("round 0", 7, d.value(swapped, false));
        check.same("round 0", 7, d.value(late, false));
        d.run(2, 100, 7, 0);
        check.same("round 1", 103, d.value(sum, false));
        check.same("round 1", 3, d.value(swapped, false));
        check.same("a back value of the round before", 7, d.value(other, false));
        check.same("a back value of the round before", 100, d.value(late, false));
        d.run(50, 100, 7, 0);
        check.same("round 49", 247, d.value(sum, false));
        check.same("round 49", 250, d.value(next, false));
        check.same("round 49", 244, d.value(late, false));
        d.run(1, 100, 7, 0);
        check.same("a run begins anew", 100, d.value(sum, false));
    }

    private static void runsOfTheShorter() {
        DemandedBits d = withConstant(0xFF);
        int low = d.binary(AND, 0, 2);
        int loop = d.loop(low);
        int next = d.binary(ADD, loop, low);
        d.back(loop, next);
        d.result(loop, 0xFF);
        check.same("low is x", 0, d.replaced(low));
        check.same("low, loop and next", 4, d.run(3, 0x101, 1, 0));
        check.same("loop as it is", 0x3, d.value(loop, false));
        check.same("loop in the shorter", 0x303, d.value(loop, true));
        check.same("next in the shorter", 0x404, d.value(next, true));
        check.same("observed as it is", 3, d.observed(0, false));
        check.same("observed in the shorter", 3, d.observed(0, true));
    }

    // Promise 14.
    private static void observedResults() {
        DemandedBits d = withConstant(0x0F);
        d.result(0, 0xFF);
        check.same("nothing was run", 0, d.observed(0, false));
        check.fails("result -1", INDEX, () -> d.observed(-1, false));
        check.fails("result 1", INDEX, () -> d.observed(1, true));
        d.run(1, 0x1234, 0x77, 0);
        check.same("masked", 0x34, d.observed(0, false));
        check.same("masked in the shorter", 0x34, d.observed(0, true));
        d.result(0, 0xF00);
        check.same("made later", 0, d.observed(1, false));
        check.same("made later, in the shorter", 0, d.observed(1, true));
        check.same("still of the latest run", 0x34, d.observed(0, false));
        d.run(1, 0x5678, 0, 0);
        check.same("another run", 0x78, d.observed(0, true));
        check.same("made before this one", 0x600, d.observed(1, false));
    }

    // Promise 15.
    private static void valuesOfRuns() {
        DemandedBits d = withConstant(0x0F);
        check.same("nothing was run", 0, d.value(2, false));
        check.same("nothing was run", 0, d.value(2, true));
        check.fails("value -1", INDEX, () -> d.value(-1, false));
        check.fails("value 3", INDEX, () -> d.value(3, true));
        d.run(1, 8, 9, 10);
        int and = d.binary(AND, 0, 2);
        check.same("made later", 0, d.value(and, false));
        check.same("made later, in the shorter", 0, d.value(and, true));
        check.same("a constant", 0x0F, d.value(2, true));
        d.result(and, 0x0F);
        check.same("the shorter of the latest run", 0, d.value(0, true));
        d.run(1, 0x18, 9, 10);
        check.same("as it is", 0x8, d.value(and, false));
        check.same("in the shorter", 0x18, d.value(and, true));
    }

    // What throws changes nothing, also where there is no room.
    private static void fullFunctions() {
        DemandedBits d = full();
        check.fails("a value too many", STATE, () -> d.constant(99));
        check.fails("a value too many", STATE, () -> d.binary(0, 1, 2));
        d.result(23, -1);
        d.run(1, 0, 0, 0);
        for (int v = 0; v < 24; v++) {
            check.same("a value of a full one", v, d.value(v, true));
        }
        check.fails("no 25th", INDEX, () -> d.value(24, true));
        check.same("live in a full one", 1, d.live());
    }
}
