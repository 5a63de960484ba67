import java.util.ArrayDeque;
import java.util.ArrayList;
import java.util.Arrays;
import java.util.List;

/**
 * The document once more, bit by bit and without regard for speed, as something to hold the program against.
 * It checks no arguments: what is wrong is left to PromisesTest.
 */
final class Model {
    static final int UNKNOWN = 2;

    enum Kind { ADD, SUB, MUL, AND, OR, XOR, LEFT, RIGHT, LOGICAL, INPUT, CONSTANT, BYTE, SHORT, LOOP }

    static final class Value {
        final Kind kind;
        final int x;
        int y;
        final int number;

        Value(Kind kind, int x, int y, int number) {
            this.kind = kind;
            this.x = x;
            this.y = y;
            this.number = number;
        }
    }

    final List<Value> values = new ArrayList<>();
    final List<int[]> results = new ArrayList<>();
    private int[] latest = {};
    private int[] latestShorter = {};
    private int[] latestResults = {};
    private int[] latestShorterResults = {};

    int add(Kind kind, int x, int y, int number) {
        values.add(new Value(kind, x, y, number));
        return values.size() - 1;
    }

    int[][] facts() {
        int[][] facts = new int[values.size()][];
        for (int v = 0; v < facts.length; v++) {
            Value value = values.get(v);
            facts[v] = value.kind == Kind.LOOP ? facts[value.x].clone() : factsOf(value, facts);
        }
        while (true) {
            // All at once from the facts before: another order than the program's, and the same must come of it.
            int[][] next = new int[facts.length][];
            for (int v = 0; v < facts.length; v++) {
                Value value = values.get(v);
                next[v] = value.kind == Kind.LOOP
                        ? lost(facts[v], facts[value.x], facts[value.y]) : factsOf(value, facts);
            }
            if (Arrays.deepEquals(facts, next)) {
                return facts;
            }
            facts = next;
        }
    }

    private static int[] lost(int[] own, int[] x, int[] y) {
        int[] left = new int[32];
        for (int i = 0; i < 32; i++) {
            left[i] = own[i] == x[i] && own[i] == y[i] ? own[i] : UNKNOWN;
        }
        return left;
    }

    private static int[] factsOf(Value value, int[][] facts) {
        int[] known = new int[32];
        int[] x = facts[value.x];
        int[] y = value.y < facts.length ? facts[value.y] : null;
        switch (value.kind) {
            case ADD: return sum(x, y, 0);
            case SUB: return sum(x, exchanged(y), 1);
            case MUL: return product(x, y);
            default: break;
        }
        for (int i = 0; i < 32; i++) {
            switch (value.kind) {
                case INPUT: known[i] = UNKNOWN; break;
                case CONSTANT: known[i] = value.number >>> i & 1; break;
                case AND: known[i] = x[i] == 0 || y[i] == 0 ? 0 : x[i] == 1 && y[i] == 1 ? 1 : UNKNOWN; break;
                case OR: known[i] = x[i] == 1 || y[i] == 1 ? 1 : x[i] == 0 && y[i] == 0 ? 0 : UNKNOWN; break;
                case XOR: known[i] = x[i] == UNKNOWN || y[i] == UNKNOWN ? UNKNOWN : x[i] ^ y[i]; break;
                default:
                    int source = source(value, i);
                    known[i] = source < 0 ? 0 : x[source];
                    break;
            }
        }
        return known;
    }

    /** The bit of x that bit i of a shift, a BYTE or a SHORT comes from, -1 for a 0 that comes in. */
    private static int source(Value value, int i) {
        switch (value.kind) {
            case LEFT: return i - value.number < 0 ? -1 : i - value.number;
            case RIGHT: return Math.min(31, i + value.number);
            case LOGICAL: return i + value.number > 31 ? -1 : i + value.number;
            case BYTE: return Math.min(7, i);
            case SHORT: return Math.min(15, i);
            default: throw new AssertionError(value.kind);
        }
    }

    private static int[] exchanged(int[] y) {
        int[] other = new int[32];
        for (int i = 0; i < 32; i++) {
            other[i] = y[i] == UNKNOWN ? UNKNOWN : 1 - y[i];
        }
        return other;
    }

    private static int[] sum(int[] x, int[] y, int carry) {
        int[] known = new int[32];
        for (int i = 0; i < 32; i++) {
            boolean all = x[i] != UNKNOWN && y[i] != UNKNOWN && carry != UNKNOWN;
            known[i] = all ? x[i] + y[i] + carry & 1 : UNKNOWN;
            int zeros = count(0, x[i], y[i], carry);
            int ones = count(1, x[i], y[i], carry);
            carry = zeros >= 2 ? 0 : ones >= 2 ? 1 : UNKNOWN;
        }
        return known;
    }

    private static int count(int bit, int... bits) {
        int count = 0;
        for (int b : bits) {
            count += b == bit ? 1 : 0;
        }
        return count;
    }

    private static int[] product(int[] x, int[] y) {
        int m = 0;
        long left = 0;
        long right = 0;
        while (m < 32 && x[m] != UNKNOWN && y[m] != UNKNOWN) {
            left |= (long) x[m] << m;
            right |= (long) y[m] << m;
            m++;
        }
        int zeros = lowZeros(x) + lowZeros(y);
        int[] known = new int[32];
        for (int i = 0; i < 32; i++) {
            known[i] = i < m ? (int) (left * right >>> i & 1) : i < zeros ? 0 : UNKNOWN;
        }
        return known;
    }

    private static int lowZeros(int[] x) {
        int count = 0;
        while (count < 32 && x[count] == 0) {
            count++;
        }
        return count;
    }

    static int word(int[] facts, int bit) {
        int word = 0;
        for (int i = 0; i < 32; i++) {
            word |= (facts[i] == bit ? 1 : 0) << i;
        }
        return word;
    }

    /** replacements is null for the function as it is. */
    boolean[][] demands(int[][] facts, int[] replacements) {
        boolean[][] demanded = new boolean[values.size()][32];
        ArrayDeque<int[]> open = new ArrayDeque<>();
        for (int[] result : results) {
            for (int i = 0; i < 32; i++) {
                if ((result[1] >>> i & 1) == 1) {
                    demand(demanded, open, result[0], i);
                }
            }
        }
        while (!open.isEmpty()) {
            int[] next = open.pop();
            int replacement = replacements == null ? DemandedBits.NONE : replacements[next[0]];
            if (replacement == DemandedBits.NONE) {
                ask(demanded, open, facts, values.get(next[0]), next[1]);
            } else if (replacement != DemandedBits.FIXED) {
                demand(demanded, open, replacement, next[1]);
            }
        }
        return demanded;
    }

    private static void demand(boolean[][] demanded, ArrayDeque<int[]> open, int v, int bit) {
        if (!demanded[v][bit]) {
            demanded[v][bit] = true;
            open.push(new int[] {v, bit});
        }
    }

    private static void ask(boolean[][] demanded, ArrayDeque<int[]> open, int[][] facts, Value value, int i) {
        switch (value.kind) {
            case INPUT: case CONSTANT:
                break;
            case ADD: case SUB: case MUL:
                for (int j = 0; j <= i; j++) {
                    demand(demanded, open, value.x, j);
                    demand(demanded, open, value.y, j);
                }
                break;
            case AND: case OR:
                int settling = value.kind == Kind.AND ? 0 : 1;
                boolean settledByX = facts[value.x][i] == settling;
                boolean settledByY = facts[value.y][i] == settling;
                if (!settledByY) {
                    demand(demanded, open, value.x, i);
                }
                if (settledByY || !settledByX) {
                    demand(demanded, open, value.y, i);
                }
                break;
            case XOR: case LOOP:
                demand(demanded, open, value.x, i);
                demand(demanded, open, value.y, i);
                break;
            default:
                if (source(value, i) >= 0) {
                    demand(demanded, open, value.x, source(value, i));
                }
                break;
        }
    }

    static int word(boolean[] bits) {
        int word = 0;
        for (int i = 0; i < 32; i++) {
            word |= (bits[i] ? 1 : 0) << i;
        }
        return word;
    }

    static int highest(boolean[] bits) {
        int highest = -1;
        for (int i = 0; i < 32; i++) {
            highest = bits[i] ? i : highest;
        }
        return highest;
    }

    static int width(boolean[] demanded) {
        return highest(demanded) < 8 ? 8 : highest(demanded) < 16 ? 16 : 32;
    }

    int[] replacements(int[][] facts, boolean[][] demands) {
        int[] replacements = new int[values.size()];
        for (int v = 0; v < replacements.length; v++) {
            replacements[v] = replacement(values.get(v), facts[v], demands[v]);
        }
        return replacements;
    }

    private int replacement(Value value, int[] known, boolean[] demanded) {
        if (value.kind == Kind.CONSTANT) {
            return DemandedBits.NONE;
        }
        boolean fixed = true;
        for (int i = 0; i < 32; i++) {
            fixed = fixed && !(demanded[i] && known[i] == UNKNOWN);
        }
        if (fixed) {
            return DemandedBits.FIXED;
        }
        return likeX(value, demanded) ? value.x : DemandedBits.NONE;
    }

    private boolean likeX(Value value, boolean[] demanded) {
        if (value.kind == Kind.BYTE || value.kind == Kind.SHORT) {
            return highest(demanded) <= (value.kind == Kind.BYTE ? 7 : 15);
        }
        if (value.kind.ordinal() > Kind.XOR.ordinal() || value.kind == Kind.MUL
                || values.get(value.y).kind != Kind.CONSTANT) {
            return false;
        }
        boolean like = true;
        for (int i = 0; i <= highest(demanded); i++) {
            boolean set = (values.get(value.y).number >>> i & 1) == 1;
            switch (value.kind) {
                case AND: like = like && (set || !demanded[i]); break;
                case OR: like = like && !(set && demanded[i]); break;
                default: like = like && !set; break;
            }
        }
        return like;
    }

    int run(int rounds, int[] inputs) {
        int[][] facts = facts();
        int[] replacements = replacements(facts, demands(facts, null));
        int[] none = new int[values.size()];
        Arrays.fill(none, DemandedBits.NONE);
        latest = lastRound(rounds, inputs, none, facts);
        latestShorter = lastRound(rounds, inputs, replacements, facts);
        latestResults = seen(latest);
        latestShorterResults = seen(latestShorter);
        int differences = 0;
        for (int v = 0; v < latest.length; v++) {
            differences += latest[v] == latestShorter[v] ? 0 : 1;
        }
        return differences;
    }

    private int[] seen(int[] last) {
        int[] seen = new int[results.size()];
        for (int r = 0; r < seen.length; r++) {
            seen[r] = last[results.get(r)[0]] & results.get(r)[1];
        }
        return seen;
    }

    private int[] lastRound(int rounds, int[] inputs, int[] replacements, int[][] facts) {
        int[][] history = new int[rounds][values.size()];
        for (int round = 0; round < rounds; round++) {
            int[] now = history[round];
            for (int v = 0; v < now.length; v++) {
                Value value = values.get(v);
                if (replacements[v] == DemandedBits.FIXED) {
                    now[v] = word(facts[v], 1);
                } else if (replacements[v] != DemandedBits.NONE) {
                    now[v] = now[value.x];
                } else if (value.kind == Kind.LOOP) {
                    now[v] = round == 0 ? now[value.x] : history[round - 1][value.y];
                } else {
                    now[v] = workOut(value, now, inputs);
                }
            }
        }
        return history[rounds - 1];
    }

    private static int workOut(Value value, int[] now, int[] inputs) {
        long x = now[value.x];
        long y = now[value.y];
        switch (value.kind) {
            case INPUT: return inputs[value.number];
            case CONSTANT: return value.number;
            case ADD: return (int) (x + y);
            case SUB: return (int) (x - y);
            case MUL: return (int) (x * y);
            case AND: return (int) (x & y);
            case OR: return (int) (x | y);
            case XOR: return (int) (x ^ y);
            default: break;
        }
        int word = 0;
        for (int i = 0; i < 32; i++) {
            int source = source(value, i);
            word |= source < 0 ? 0 : (int) (x >>> source & 1) << i;
        }
        return word;
    }

    int value(int v, boolean shorter) {
        return at(shorter ? latestShorter : latest, v);
    }

    int observed(int r, boolean shorter) {
        return at(shorter ? latestShorterResults : latestResults, r);
    }

    private static int at(int[] row, int index) {
        return index < row.length ? row[index] : 0;
    }
}
