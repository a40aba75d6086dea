import java.util.ArrayList;
import java.util.Arrays;
import java.util.Collections;
import java.util.List;
import java.util.Random;

/** Long runs of calls, the same ones each time, whose answers must be the Model's. */
public final class ModelTest {
    private static final int CALLS = 512;
    private static final int RUNS = 80;
    private static final String[] WRITES = {"insert", "insert", "insert", "insert", "delete", "style", "style", "comment",
        "block", "undo", "see", "see", "meet"};
    private static final String[] READS = {"sign", "id", "unit", "styled", "run", "lies", "paragraph", "row", "alike", "total"};
    private static final int[] SIGNS = {10, 10, 32, 97, 97, 98, 55295, 57344, 65535, 65536, 128512, 1114111};
    private static final int[] WRONG = {-1, -2, 4, 7, 10, 250, 251, 1 << 20, Integer.MIN_VALUE, Integer.MAX_VALUE};

    private final Due due;
    private final Random random;
    private final TextMarks real = new TextMarks();
    private final Model model = new Model();
    private int rows;

    private ModelTest(Due due, long seed) {
        this.due = due;
        this.random = new Random(seed);
    }

    public static void main(String[] args) {
        Due due = new Due("ModelTest");
        for (int seed = 1; seed <= RUNS && due.wrong() == 0; seed++) {
            due.part("run " + seed);
            // Some runs mostly write, so that they come to the 250 rows; others mostly read.
            new ModelTest(due, seed).play(30 + seed % 4 * 20);
        }
        for (int seed = 1; seed <= 40 && due.wrong() == 0; seed++) {
            due.part("order of coming " + seed);
            new ModelTest(due, -seed).shuffle();
        }
        due.end();
    }

    private void play(int writesOfHundred) {
        for (int call = 0; call < CALLS && due.wrong() == 0; call++) {
            String[] names = random.nextInt(100) < writesOfHundred ? WRITES : READS;
            ask(names[random.nextInt(names.length)]);
        }
    }

    private void ask(String name) {
        int[] a = arguments(name);
        if (random.nextInt(25) == 0) {
            a[random.nextInt(a.length)] = WRONG[random.nextInt(WRONG.length)];
        }
        int want = model.answer(name, a);
        due.is(name + Arrays.toString(a), answer(name, a), want);
        boolean makes = Arrays.asList("insert", "delete", "style", "comment", "block", "undo").contains(name);
        if (makes && want > 0) {
            rows = want;
        }
    }

    private int[] arguments(String name) {
        int node = random.nextInt(4);
        int size = model.answer("total", new int[] {node, 0});
        int from = random.nextInt(size + 1);
        int to = from + random.nextInt(size + 1 - from + 1);
        int paragraph = random.nextInt(model.answer("total", new int[] {node, 3}) + 1);
        int row = random.nextInt(rows + 2);
        int digit = random.nextInt(10);
        return switch (name) {
            case "insert" -> new int[] {node, from, SIGNS[random.nextInt(SIGNS.length)]};
            case "style" -> new int[] {node, from, to, random.nextInt(4), digit};
            case "comment" -> new int[] {node, from, to};
            case "block" -> new int[] {node, paragraph, digit};
            case "undo", "see" -> new int[] {node, row};
            case "meet", "alike" -> new int[] {node, random.nextInt(4)};
            case "unit" -> new int[] {node, random.nextInt(2 * size + 1)};
            case "styled" -> new int[] {node, from, random.nextInt(4)};
            case "run" -> new int[] {node, random.nextInt(size + 1) / 2, random.nextInt(6)};
            case "lies" -> new int[] {node, someComment(row), random.nextInt(2)};
            case "paragraph" -> new int[] {node, paragraph, random.nextInt(3)};
            case "row" -> new int[] {row, random.nextInt(7)};
            case "total" -> new int[] {node, random.nextInt(7)};
            default -> new int[] {node, from};
        };
    }

    private int someComment(int from) {
        for (int row = from; row <= rows; row++) {
            if (model.answer("row", new int[] {row, 0}) == 3) {
                return row;
            }
        }
        return from;
    }

    private int answer(String name, int[] a) {
        return switch (name) {
            case "insert" -> real.insert(a[0], a[1], a[2]);
            case "delete" -> real.delete(a[0], a[1]);
            case "style" -> real.style(a[0], a[1], a[2], a[3], a[4]);
            case "comment" -> real.comment(a[0], a[1], a[2]);
            case "block" -> real.block(a[0], a[1], a[2]);
            case "undo" -> real.undo(a[0], a[1]);
            case "see" -> real.see(a[0], a[1]) ? 1 : 0;
            case "meet" -> real.meet(a[0], a[1]);
            case "sign" -> real.sign(a[0], a[1]);
            case "id" -> real.id(a[0], a[1]);
            case "unit" -> real.unit(a[0], a[1]);
            case "styled" -> real.styled(a[0], a[1], a[2]);
            case "run" -> real.run(a[0], a[1], a[2]);
            case "lies" -> real.lies(a[0], a[1], a[2]);
            case "paragraph" -> real.paragraph(a[0], a[1], a[2]);
            case "row" -> real.row(a[0], a[1]);
            case "alike" -> real.alike(a[0], a[1]) ? 1 : 0;
            case "total" -> real.total(a[0], a[1]);
            default -> throw new IllegalArgumentException(name);
        };
    }

    /** Nodes 0 and 1 write at once; 2 gets their rows at once, 3 one by one in any order that can be. */
    private void shuffle() {
        for (int call = 0; call < 60; call++) {
            String name = WRITES[random.nextInt(10)];
            int[] a = arguments(name);
            a[0] = random.nextInt(2);
            due.is(name + Arrays.toString(a), answer(name, a), model.answer(name, a));
            rows = Math.max(rows, rowsMade());
            if (call % 15 == 14) {
                real.meet(0, 1);
                model.answer("meet", new int[] {0, 1});
            }
        }
        real.meet(2, 0);
        real.meet(2, 1);
        List<Integer> left = new ArrayList<>();
        for (int row = 1; row <= rows; row++) {
            left.add(row);
        }
        Collections.shuffle(left, random);
        // Bounded by the calls an object has: needs go by small numbers, so few rounds are enough.
        for (int call = 0; call < 380 && !left.isEmpty(); call++) {
            int row = left.remove(0);
            if (!real.see(3, row)) {
                left.add(row);
            }
        }
        for (int row : left.stream().sorted().toList()) {
            real.see(3, row);
        }
        due.is("rows of node 3", real.total(3, 5), rows);
        due.is("alike(2, 3)", real.alike(2, 3), true);
        due.is("total(3, 6)", real.total(3, 6), real.total(2, 6));
    }

    private int rowsMade() {
        int made = rows;
        while (model.answer("row", new int[] {made + 1, 0}) >= 0) {
            made++;
        }
        return made;
    }
}
