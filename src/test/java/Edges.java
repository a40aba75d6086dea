import java.lang.reflect.Method;
import java.util.Arrays;

/** A test for each sentence of the document that names a boundary case. */
abstract class Edges extends Asking {
    static final int ROWS = 250;

    // How far beyond its range a number is tried. 613566757 times 7, as a row has 7 cells, wraps
    // around to 3; 8 times 4, as a value takes 4 bits, is a shift by 32, which is one by 0.
    private static final int[] STEPS = {1, 2, 8, 256, 65536, 613566757, 1 << 30, MIN};

    /** The section and the words of the sentence, as the document has them, are the test's name. */
    static void edge(String section, String words, Runnable test) {
        holds(section + ", '" + words + "'", test);
    }

    /** Likewise where a sentence has several cases. */
    static void edge(String section, String words, String boundary, Runnable test) {
        holds(section + ", '" + words + "', " + boundary, test);
    }

    private static void holds(String name, Runnable test) {
        part(name);
        int before = asked();
        try {
            test.run();
        } catch (RuntimeException | Error thrown) {
            is("no call throws, but there was " + thrown, false, true);
        }
        is("it asks for something", asked() > before, true);
    }

    /** Numbers too small and too large for low .. high, those too that come near again by a wrap-around. */
    static int[] outside(int low, int high) {
        int[] found = new int[2 * STEPS.length + 2];
        int count = 0;
        for (int step : STEPS) {
            count = keepOutside(found, count, low - step, low, high);
            count = keepOutside(found, count, high + step, low, high);
        }
        count = keepOutside(found, count, MIN, low, high);
        count = keepOutside(found, count, MAX, low, high);
        return Arrays.copyOf(found, count);
    }

    private static int keepOutside(int[] found, int count, int number, int low, int high) {
        if (number >= low && number <= high) {
            return count;
        }
        found[count] = number;
        return count + 1;
    }

    static int[] noNodes() {
        return outside(0, 3);
    }

    /** Asks that the calls, all of them to be refused, leave all as it was. */
    static void unchanged(TextMarks x, Runnable refused) {
        String before = stateOf(x);
        refused.run();
        String after = stateOf(x);
        is("all is as before: " + before + " and now " + after, before.equals(after), true);
    }

    /** Every row, and all totals of each node; what else there is follows from these. */
    private static String stateOf(TextMarks x) {
        StringBuilder state = new StringBuilder();
        for (int row = 1; row <= ROWS && x.row(row, 0) != NONE; row++) {
            for (int what = 0; what < 7; what++) {
                state.append(x.row(row, what)).append(' ');
            }
        }
        for (int node = 0; node < 4; node++) {
            state.append('/');
            for (int what = 0; what < 7; what++) {
                state.append(x.total(node, what)).append(' ');
            }
        }
        return state.toString();
    }

    /**
     * Makes a row that no call of the face makes, by the method inside the class through which they
     * all go: the document speaks of a few such rows.
     */
    static int plant(TextMarks x, int node, int sort, int detail, int value, int first, int second) {
        try {
            Method write = TextMarks.class.getDeclaredMethod("write", int.class, int.class, int.class, int.class,
                    int.class, int.class);
            write.setAccessible(true);
            return (Integer) write.invoke(x, node, sort, detail, value, first, second);
        } catch (ReflectiveOperationException changed) {
            throw new IllegalStateException("the inside of the class is another one: plant() goes with it", changed);
        }
    }

    /** Rows 1 .. count, signs that node 0 writes one behind the other. */
    static TextMarks writtenRows(int count) {
        TextMarks x = new TextMarks();
        for (int i = 0; i < count; i++) {
            x.insert(0, i, 'a');
        }
        return x;
    }
}
