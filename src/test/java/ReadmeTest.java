import java.io.IOException;
import java.nio.file.Files;
import java.nio.file.Path;
import java.util.ArrayDeque;
import java.util.regex.Matcher;
import java.util.regex.Pattern;

/** Each call in README.md with a number behind it answers that number. */
public final class ReadmeTest {
    private static final Check check = new Check();
    private static final Pattern ROW = Pattern.compile("(\\S.*;) *// (-?\\w+).*");
    private static final ArrayDeque<String[]> rows = new ArrayDeque<>();

    public static void main(String[] args) throws IOException {
        for (String line : Files.readAllLines(Path.of("README.md"))) {
            Matcher row = ROW.matcher(line);
            if (row.matches()) {
                rows.add(new String[] {row.group(1), row.group(2)});
            }
        }
        maskedInput();
        sumOfSteps();
        check.same("rows that no test holds", 0, rows.size());
        check.end();
    }

    /** The next row is this call, and tells this answer. */
    private static void says(String call, int answer) {
        String[] row = rows.isEmpty() ? new String[] {"no row", "0"} : rows.remove();
        check.same("the next row", call, row[0]);
        check.same(call, Integer.decode(row[1]), answer);
    }

    private static void maskedInput() {
        DemandedBits d = new DemandedBits();
        int x = d.input(0);
        says("int x = d.input(0);", x);
        int mask = d.constant(0xFF);
        says("int mask = d.constant(0xFF);", mask);
        int low = d.binary(DemandedBits.AND, x, mask);
        says("int low = d.binary(DemandedBits.AND, x, mask);", low);
        int seen = d.result(low, 0x0F);
        says("int seen = d.result(low, 0x0F);", seen);
        says("d.bits(low, 0);", d.bits(low, 0));
        says("d.bits(low, 1);", d.bits(low, 1));
        says("d.bits(x, 2);", d.bits(x, 2));
        says("d.bits(x, 3);", d.bits(x, 3));
        says("d.bits(mask, 2);", d.bits(mask, 2));
        says("d.bits(mask, 4);", d.bits(mask, 4));
        says("d.replaced(low);", d.replaced(low));
        says("d.replaced(mask);", d.replaced(mask));
        says("d.live();", d.live());
        says("d.run(1, 0x1234, 0, 0);", d.run(1, 0x1234, 0, 0));
        says("d.value(low, false);", d.value(low, false));
        says("d.value(low, true);", d.value(low, true));
        says("d.observed(seen, false);", d.observed(seen, false));
        says("d.observed(seen, true);", d.observed(seen, true));
    }

    private static void sumOfSteps() {
        DemandedBits s = new DemandedBits();
        int n = s.input(0);
        says("int n = s.input(0);", n);
        int step = s.shift(DemandedBits.LEFT, n, 2);
        says("int step = s.shift(DemandedBits.LEFT, n, 2);", step);
        int zero = s.constant(0);
        says("int zero = s.constant(0);", zero);
        int sum = s.loop(zero);
        says("int sum = s.loop(zero);", sum);
        int next = s.binary(DemandedBits.ADD, sum, step);
        says("int next = s.binary(DemandedBits.ADD, sum, step);", next);
        s.back(sum, next);
        int total = s.result(sum, 0xFF);
        says("int total = s.result(sum, 0xFF);", total);
        says("s.bits(sum, 0);", s.bits(sum, 0));
        says("s.bits(n, 2);", s.bits(n, 2));
        says("s.run(1, 5, 0, 0);", s.run(1, 5, 0, 0));
        says("s.observed(total, false);", s.observed(total, false));
        says("s.run(4, 5, 0, 0);", s.run(4, 5, 0, 0));
        says("s.value(sum, false);", s.value(sum, false));
        says("s.value(next, false);", s.value(next, false));
    }
}
