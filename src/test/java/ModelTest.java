import java.util.Random;

/** Functions made by a fixed sequence of choices, each looked at from all sides and held against the model. */
public final class ModelTest {
    private static final int FUNCTIONS = 6000;
    private static final int MOST_CALLS = 512;
    private static final Check check = new Check();

    private static final int[] TELLING = {
        0, 1, 2, 3, 4, 7, 15, 16, 127, 128, 255, 256, 32767, 32768, 65535, 65536, -1, -2, -16, -256, -65536,
        Integer.MIN_VALUE, Integer.MAX_VALUE, 0x55555555, 0xAAAAAAAA, 0x00FF00FF};

    private final Random random;
    private final DemandedBits program = new DemandedBits();
    private final Model model = new Model();
    private final String name;
    private int calls;

    private ModelTest(int seed) {
        random = new Random(seed);
        name = "function " + seed;
    }

    public static void main(String[] args) {
        for (int seed = 0; seed < FUNCTIONS && check.wrong() < 20; seed++) {
            new ModelTest(seed).play();
        }
        check.end();
    }

    private void play() {
        int most = 1 + random.nextInt(24);
        makeValue();
        while (calls < MOST_CALLS - 350) {
            int choice = random.nextInt(20);
            if (choice < 13 && model.values.size() < most) {
                makeValue();
            } else if (choice < 15 && model.results.size() < 4) {
                makeResult();
            } else if (choice < 18) {
                turnBack();
            } else if (choice < 19) {
                run();
            } else {
                lookAtOne(random.nextInt(model.values.size()));
            }
        }
        lookAtAll();
        run();
        lookAtRun();
        lookForSense();
        check.same(name + " stays under the document's calls", true, calls <= MOST_CALLS);
    }

    private int word() {
        switch (random.nextInt(3)) {
            case 0: return random.nextInt();
            case 1: return 1 << random.nextInt(32);
            default: return TELLING[random.nextInt(TELLING.length)];
        }
    }

    private int operand() {
        int size = model.values.size();
        // Mostly near ones, so that long chains come about.
        return random.nextBoolean() ? random.nextInt(size) : Math.max(0, size - 1 - random.nextInt(3));
    }

    private void makeValue() {
        calls++;
        int choice = model.values.isEmpty() ? random.nextInt(2) : random.nextInt(14);
        if (choice == 0) {
            int k = random.nextInt(3);
            same("input", model.add(Model.Kind.INPUT, 0, 0, k), program.input(k));
        } else if (choice <= 2) {
            int c = word();
            same("constant", model.add(Model.Kind.CONSTANT, 0, 0, c), program.constant(c));
        } else if (choice <= 8) {
            makeBinary();
        } else if (choice <= 10) {
            int operation = random.nextInt(3);
            int x = operand();
            int distance = random.nextBoolean() ? random.nextInt(32) : random.nextInt(5);
            Model.Kind kind = Model.Kind.values()[Model.Kind.LEFT.ordinal() + operation];
            same("shift", model.add(kind, x, 0, distance), program.shift(operation, x, distance));
        } else if (choice <= 11) {
            boolean wide = random.nextBoolean();
            int x = operand();
            same("extend", model.add(wide ? Model.Kind.SHORT : Model.Kind.BYTE, x, 0, 0), program.extend(x, wide));
        } else {
            int x = operand();
            same("loop", model.add(Model.Kind.LOOP, x, model.values.size(), 0), program.loop(x));
        }
    }

    private void makeBinary() {
        int operation = random.nextInt(6);
        int x = operand();
        int y = operand();
        same("binary", model.add(Model.Kind.values()[operation], x, y, 0), program.binary(operation, x, y));
    }

    private void makeResult() {
        calls++;
        int v = operand();
        int mask = word();
        model.results.add(new int[] {v, mask});
        same("result", model.results.size() - 1, program.result(v, mask));
    }

    private void turnBack() {
        int start = random.nextInt(model.values.size());
        for (int step = 0; step < model.values.size(); step++) {
            int v = (start + step) % model.values.size();
            if (model.values.get(v).kind == Model.Kind.LOOP) {
                calls++;
                int y = operand();
                model.values.get(v).y = y;
                program.back(v, y);
                return;
            }
        }
        calls++;
        same("live", liveOfModel(), program.live());
    }

    private int liveOfModel() {
        int[][] facts = model.facts();
        int live = 0;
        for (boolean[] bits : model.demands(facts, model.replacements(facts, model.demands(facts, null)))) {
            live += Model.word(bits) != 0 ? 1 : 0;
        }
        return live;
    }

    private void lookAtOne(int v) {
        calls += 6;
        int[][] facts = model.facts();
        boolean[][] demands = model.demands(facts, null);
        int[] replacements = model.replacements(facts, demands);
        boolean[][] shorter = model.demands(facts, replacements);
        same("zeros of " + v, Model.word(facts[v], 0), program.bits(v, 0));
        same("ones of " + v, Model.word(facts[v], 1), program.bits(v, 1));
        same("demanded of " + v, Model.word(demands[v]), program.bits(v, 2));
        same("width of " + v, Model.width(demands[v]), program.bits(v, 3));
        same("demanded in the shorter of " + v, Model.word(shorter[v]), program.bits(v, 4));
        same("replaced " + v, replacements[v], program.replaced(v));
    }

    private void lookAtAll() {
        for (int v = 0; v < model.values.size(); v++) {
            lookAtOne(v);
        }
        calls++;
        same("live", liveOfModel(), program.live());
    }

    private void run() {
        calls++;
        int rounds = random.nextInt(4) == 0 ? 1 + random.nextInt(50) : 1 + random.nextInt(5);
        int[] inputs = {word(), word(), word()};
        same("run", model.run(rounds, inputs), program.run(rounds, inputs[0], inputs[1], inputs[2]));
        int v = operand();
        calls++;
        same("value " + v, model.value(v, true), program.value(v, true));
    }

    private void lookAtRun() {
        for (int v = 0; v < model.values.size(); v++) {
            calls += 2;
            same("value " + v, model.value(v, false), program.value(v, false));
            same("value in the shorter " + v, model.value(v, true), program.value(v, true));
        }
        for (int r = 0; r < model.results.size(); r++) {
            calls += 2;
            same("observed " + r, model.observed(r, false), program.observed(r, false));
            same("observed in the shorter " + r, model.observed(r, true), program.observed(r, true));
        }
    }

    /** What the rules are for: known bits are so in the run, and demanded ones stay as they are in the shorter one. */
    private void lookForSense() {
        for (int v = 0; v < model.values.size(); v++) {
            calls += 3;
            int plain = model.value(v, false);
            same("zeros that are none of " + v, 0, program.bits(v, 0) & plain);
            same("ones that are none of " + v, 0, program.bits(v, 1) & ~plain);
            same("demanded bits that differ of " + v, 0, program.bits(v, 2) & (plain ^ model.value(v, true)));
        }
    }

    private void same(String what, int due, int got) {
        check.same(name + ", " + what, due, got);
    }
}
