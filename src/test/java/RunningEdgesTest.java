/** The boundary sentences of promises 13 to 15: a test for each. */
public final class RunningEdgesTest extends ByHand {
    public static void main(String[] args) {
        roundsThatAreNot();
        roundsThatAre();
        runsThatDiffer();
        runsThatDifferInAll();
        onlyTheLastRound();
        runsOfTheShorter();
        runsOfBoth();
        runsBeginAnew();
        inputsInEachRound();
        observedAsItIsAndShorter();
        observedMadeLater();
        observedOfNothing();
        observedOfTheLatest();
        observedOfARefusedRun();
        observedThatIsNot();
        valuesAsTheyAreAndShorter();
        valuesMadeLater();
        valuesOfNothing();
        valuesOfTheLatest();
        valuesOfARefusedRun();
        valuesThatAreNot();
        check.end();
    }

    /** Counts from input 0 on by input 1: value 2 is the count, value 3 the next one. */
    private static DemandedBits counting() {
        DemandedBits d = new DemandedBits();
        d.input(0);
        d.input(1);
        int count = d.loop(0);
        d.back(count, d.binary(ADD, count, 1));
        d.result(count, -1);
        return d;
    }

    private static void roundsThatAreNot() {
        check.about("Promise 13", "IllegalArgument: rounds is not 1 .. 50.");
        DemandedBits d = counting();
        int[] none = {0, 51, -1, 52, MIN, MAX};
        for (int rounds : none) {
            check.fails(rounds + " rounds", ARGUMENT, () -> d.run(rounds, 1, 1, 1));
            check.fails(rounds + " rounds of no values", ARGUMENT, () -> new DemandedBits().run(rounds, 1, 1, 1));
        }
        check.same("none of them was run", 0, d.value(0, false));
    }

    private static void roundsThatAre() {
        check.about("Promise 13", "A RUN of both functions with so many rounds");
        DemandedBits d = counting();
        for (int rounds = 1; rounds <= 50; rounds++) {
            check.same(rounds + " rounds", 0, d.run(rounds, 1000, 3, 0));
            check.same("the count after " + rounds, 1000 + 3 * (rounds - 1), d.value(2, false));
            check.same("the next one after " + rounds, 1000 + 3 * rounds, d.value(3, false));
            check.same("observed after " + rounds, 1000 + 3 * (rounds - 1), d.observed(0, true));
        }
    }

    private static void runsThatDiffer() {
        check.about("Promise 13", "how many values in all have in the last round another value in the SHORTER one");
        DemandedBits d = withConstant(0xFF);
        int low = d.binary(AND, 0, 2);
        int twice = d.shift(LEFT, low, 1);
        d.result(low, 0xFF);
        d.result(twice, 0xFF);
        // Input 1 is 0 in the shorter function, low is input 0.
        check.same("none, for values that do not show it", 0, d.run(1, 0xFF, 0, 0));
        check.same("the input that nobody asks for", 1, d.run(1, 0xFF, 1, 0));
        check.same("low and what is made of it", 2, d.run(1, 0x100, 0, 0));
        check.same("all three", 3, d.run(1, 0x100, 1, 0));
        check.same("low alone, its highest bit being shifted out", 1, d.run(1, MIN, 0, 0));
        check.same("input 2, which there is none of", 0, d.run(1, 0, 0, -1));
    }

    private static void runsThatDifferInAll() {
        check.about("Promise 13", "how many values in all have in the last round another value in the SHORTER one",
                "none and all");
        DemandedBits d = new DemandedBits();
        for (int v = 0; v < 24; v++) {
            d.input(v % 3);
        }
        check.same("none", 0, d.run(1, 0, 0, 0));
        check.same("every third", 8, d.run(1, 0, MIN, 0));
        check.same("all", 24, d.run(50, 1, -1, MIN));
        d.result(23, 1);
        check.same("all but one", 23, d.run(50, 1, -1, MIN));
        check.same("constants never differ", 0, full().run(50, 1, 2, 3));
        check.same("no values", 0, new DemandedBits().run(50, 1, 2, 3));
    }

    private static void onlyTheLastRound() {
        check.about("Promise 13", "have in the last round another value");
        DemandedBits d = withConstant(0xFF);
        int low = d.binary(AND, 0, 2);
        int loop = d.loop(low);
        d.back(loop, 2);
        d.result(loop, 0xFF);
        check.same("input 1, low and the loop", 3, d.run(1, 0x1FE, 1, 0));
        check.same("the loop in round 0", 0x1FE, d.value(loop, true));
        check.same("the loop no more", 2, d.run(2, 0x1FE, 1, 0));
        check.same("the loop in round 1", 0xFF, d.value(loop, true));
    }

    private static void runsOfTheShorter() {
        check.about("Terms", "In the SHORTER function each value that is replaced is this instead", "in each round");
        // The loop takes in the round before what its back value is in the shorter function.
        DemandedBits d = withConstant(0x10000);
        int loop = d.loop(0);
        int sum = d.binary(ADD, loop, 1);
        int back = d.binary(ADD, sum, 2);
        d.back(loop, back);
        d.result(loop, 0xFFFF);
        check.same("back is the sum", sum, d.replaced(back));
        d.run(3, 5, 7, 0);
        check.same("as it is", 0x20013, d.value(loop, false));
        check.same("in the shorter", 0x13, d.value(loop, true));
        check.same("the sum in the shorter", 0x1A, d.value(sum, true));
        check.same("back in the shorter", 0x1A, d.value(back, true));
    }

    private static void runsOfBoth() {
        check.about("Promise 13", "A RUN of both functions", "by what is observed when it is run");
        DemandedBits d = withConstant(0xF0);
        int low = d.binary(AND, 0, 2);
        check.same("nothing observed", 2, d.run(1, 0xFF, 0, 0));
        check.same("fixed", 0, d.value(low, true));
        d.result(low, 0x10);
        check.same("x", 1, d.run(1, 0xFF, 0, 0));
        check.same("as x", 0xFF, d.value(low, true));
        d.result(low, 0x01);
        check.same("itself", 0, d.run(1, 0xFF, 0, 0));
        check.same("as it is", 0xF0, d.value(low, true));
    }

    private static void runsBeginAnew() {
        check.about("Terms", "a LOOP is x in round 0", "of each run anew");
        DemandedBits d = counting();
        d.run(50, 1, 1, 0);
        d.run(1, 7, 1, 0);
        check.same("round 0", 7, d.value(2, false));
        check.same("round 0 in the shorter", 7, d.value(2, true));
        d.run(2, 8, 1, 0);
        check.same("round 1", 9, d.value(2, false));
        check.same("round 1 in the shorter", 9, d.value(2, true));
    }

    private static void inputsInEachRound() {
        check.about("Promise 13", "run(int rounds, int input0, int input1, int input2)");
        DemandedBits d = new DemandedBits();
        for (int k = 0; k < 3; k++) {
            d.input(k);
            d.result(k, -1);
        }
        check.same("a run", 0, d.run(50, MIN, MAX, -1));
        int[] due = {MIN, MAX, -1};
        for (int k = 0; k < 3; k++) {
            check.same("input " + k, due[k], d.value(k, false));
            check.same("input " + k + " in the shorter", due[k], d.value(k, true));
            check.same("input " + k + " observed", due[k], d.observed(k, false));
        }
    }

    private static void observedAsItIsAndShorter() {
        check.about("Promise 14", "A result of the latest run, of the function as it is, or the SHORTER one");
        DemandedBits d = withConstant(0xFF);
        int low = d.binary(AND, 0, 2);
        d.result(low, 0x3C);
        d.result(low, 0);
        d.result(2, -1);
        d.result(low, 0x80);
        d.run(1, 0x7FF, 0, 0);
        check.same("the values differ", true, d.value(low, false) != d.value(low, true));
        int[] due = {0x3C, 0, 0xFF, 0x80};
        for (int r = 0; r < 4; r++) {
            check.same("result " + r, due[r], d.observed(r, false));
            check.same("result " + r + " in the shorter", due[r], d.observed(r, true));
        }
    }

    private static void observedMadeLater() {
        check.about("Promise 14", "0 if it was made later");
        DemandedBits d = withConstant(5);
        d.result(0, -1);
        d.run(1, 7, 8, 9);
        d.result(0, -1);
        d.result(2, -1);
        int late = d.constant(6);
        d.result(late, -1);
        for (int r = 1; r < 4; r++) {
            check.same("result " + r, 0, d.observed(r, false));
            check.same("result " + r + " in the shorter", 0, d.observed(r, true));
        }
        check.same("the one before", 7, d.observed(0, false));
        check.same("the one before in the shorter", 7, d.observed(0, true));
        d.run(1, 70, 80, 90);
        int[] due = {70, 70, 5, 6};
        for (int r = 0; r < 4; r++) {
            check.same("result " + r + " after another run", due[r], d.observed(r, false));
            check.same("result " + r + " after another run in the shorter", due[r], d.observed(r, true));
        }
    }

    private static void observedOfNothing() {
        check.about("Promise 14", "or nothing was run");
        DemandedBits d = withConstant(5);
        d.result(2, -1);
        check.same("as it is", 0, d.observed(0, false));
        check.same("in the shorter", 0, d.observed(0, true));
        check.fails("a run that is refused", ARGUMENT, () -> d.run(51, 1, 1, 1));
        check.same("still as it is", 0, d.observed(0, false));
        check.same("still in the shorter", 0, d.observed(0, true));
        d.bits(2, ONES);
        d.live();
        check.same("asking runs nothing", 0, d.observed(0, true));
    }

    private static void observedOfTheLatest() {
        check.about("Promise 14", "A result of the latest run", "whatever is made and told behind it");
        DemandedBits d = counting();
        d.run(3, 10, 1, 0);
        d.back(2, 0);
        d.binary(SUB, 2, 3);
        d.result(4, -1);
        check.same("as it was", 12, d.observed(0, false));
        check.same("as it was in the shorter", 12, d.observed(0, true));
        d.run(3, 10, 1, 0);
        check.same("another run", 10, d.observed(0, false));
        check.same("another run, made later", -1, d.observed(1, false));
    }

    private static void observedOfARefusedRun() {
        check.about("Promise 14", "A result of the latest run", "a run that was refused is none");
        DemandedBits d = counting();
        d.run(2, 10, 1, 0);
        check.fails("0 rounds", ARGUMENT, () -> d.run(0, 50, 1, 0));
        check.fails("51 rounds", ARGUMENT, () -> d.run(51, 50, 1, 0));
        check.same("as it is", 11, d.observed(0, false));
        check.same("in the shorter", 11, d.observed(0, true));
        d.result(2, -1);
        check.fails("51 rounds", ARGUMENT, () -> d.run(51, 50, 1, 0));
        check.same("made later than the latest run", 0, d.observed(1, false));
    }

    private static void observedThatIsNot() {
        check.about("Promise 14", "IndexOutOfBounds: there is no such result.");
        for (int results = 0; results <= 4; results++) {
            DemandedBits d = withConstant(5);
            for (int r = 0; r < results; r++) {
                d.result(0, 1);
            }
            for (int none : outside(results)) {
                check.fails(none + " of " + results, INDEX, () -> d.observed(none, false));
            }
            d.run(1, 1, 1, 1);
            for (int none : outside(results)) {
                check.fails(none + " of " + results + " in the shorter", INDEX, () -> d.observed(none, true));
            }
            check.same("the last one is", results > 0 ? 1 : 0, results > 0 ? d.observed(results - 1, true) : 0);
        }
    }

    private static void valuesAsTheyAreAndShorter() {
        check.about("Promise 15", "Likewise, a value in the last round of the latest run.");
        DemandedBits d = withConstant(0xFF);
        int low = d.binary(AND, 0, 2);
        int loop = d.loop(low);
        int next = d.binary(ADD, loop, low);
        d.back(loop, next);
        d.result(loop, 0xFF);
        check.same("input 1, low, the loop and the next", 4, d.run(3, 0x101, 9, 0));
        int[] due = {0x101, 9, 0xFF, 1, 3, 4};
        int[] shorter = {0x101, 0, 0xFF, 0x101, 0x303, 0x404};
        for (int v = 0; v < due.length; v++) {
            check.same("value " + v, due[v], d.value(v, false));
            check.same("value " + v + " in the shorter", shorter[v], d.value(v, true));
        }
    }

    private static void valuesMadeLater() {
        check.about("Promise 15", "Likewise, a value in the last round of the latest run.", "0 if it was made later");
        DemandedBits d = withConstant(5);
        d.run(1, 7, 8, 9);
        for (Maker maker : MAKERS) {
            int v = maker.make(d);
            check.same("value " + v, 0, d.value(v, false));
            check.same("value " + v + " in the shorter", 0, d.value(v, true));
        }
        check.same("one before", 7, d.value(0, false));
        check.same("a constant before", 5, d.value(2, true));
        d.run(1, 7, 8, 9);
        check.same("a constant, after another run", 9, d.value(5, false));
        check.same("a constant, after another run, in the shorter", 9, d.value(5, true));
    }

    private static void valuesOfNothing() {
        check.about("Promise 15", "Likewise, a value in the last round of the latest run.", "0 if nothing was run");
        DemandedBits d = withConstant(5);
        check.same("a constant as it is", 0, d.value(2, false));
        check.same("a constant in the shorter", 0, d.value(2, true));
        check.fails("a run that is refused", ARGUMENT, () -> d.run(0, 1, 1, 1));
        check.same("still as it is", 0, d.value(2, false));
        check.same("still in the shorter", 0, d.value(2, true));
    }

    private static void valuesOfTheLatest() {
        check.about("Promise 15", "a value in the last round of the latest run.",
                "whatever is made and told behind it");
        DemandedBits d = withConstant(0x0F);
        int low = d.binary(AND, 0, 2);
        d.result(low, 0x0F);
        d.run(1, 0x777, 8, 9);
        // Now bits are demanded that are known 0, and low is no more x.
        d.result(low, -1);
        check.same("replaced now", NONE, d.replaced(low));
        check.same("as it was then", 0x7, d.value(low, false));
        check.same("as it was then in the shorter", 0x777, d.value(low, true));
        d.run(1, 0x777, 8, 9);
        check.same("another run", 0x7, d.value(low, true));
    }

    private static void valuesOfARefusedRun() {
        check.about("Promise 15", "a value in the last round of the latest run.", "a run that was refused is none");
        DemandedBits d = counting();
        d.run(2, 10, 1, 0);
        check.fails("0 rounds", ARGUMENT, () -> d.run(0, 50, 2, 0));
        check.fails("51 rounds", ARGUMENT, () -> d.run(51, 50, 2, 0));
        int[] due = {10, 1, 11, 12};
        for (int v = 0; v < due.length; v++) {
            check.same("value " + v, due[v], d.value(v, false));
        }
    }

    private static void valuesThatAreNot() {
        check.about("Promise 15", "IndexOutOfBounds.");
        DemandedBits d = withConstant(5);
        for (int none : outside(3)) {
            check.fails("value " + none, INDEX, () -> d.value(none, false));
            check.fails("value " + none + " in the shorter", INDEX, () -> d.value(none, true));
        }
        d.run(1, 1, 1, 1);
        for (int none : outside(3)) {
            check.fails("value " + none + " behind a run", INDEX, () -> d.value(none, false));
        }
        DemandedBits full = full();
        full.run(1, 1, 1, 1);
        check.same("the 24th", 23, full.value(23, true));
        for (int none : outside(24)) {
            check.fails("value " + none + " of a full one", INDEX, () -> full.value(none, true));
        }
    }
}
