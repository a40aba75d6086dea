/** What the tests of single answers share: asking, and reading a whole text off at once. */
abstract class Asking {
    static final int NONE = TextMarks.NONE;
    static final int MIN = Integer.MIN_VALUE;
    static final int MAX = Integer.MAX_VALUE;

    // Each test is a program by itself, so one counter is enough.
    private static Due due;

    static void begin(String test) {
        due = new Due(test);
    }

    static void end() {
        due.end();
    }

    static void part(String name) {
        due.part(name);
    }

    static int asked() {
        return due.asked();
    }

    static void is(String call, long got, long want) {
        due.is(call, got, want);
    }

    static void is(String call, boolean got, boolean want) {
        due.is(call, got, want);
    }

    static TextMarks written(String text) {
        TextMarks x = new TextMarks();
        write(x, 0, 0, text);
        return x;
    }

    static void write(TextMarks x, int node, int at, String text) {
        for (int i = 0; i < text.length(); i++) {
            x.insert(node, at + i, text.charAt(i));
        }
    }

    static void reads(TextMarks x, int node, String want) {
        StringBuilder got = new StringBuilder();
        int size = x.total(node, 0);
        for (int i = 0; i < size; i++) {
            got.appendCodePoint(x.sign(node, i));
        }
        is("the text of node " + node + ", \"" + got + "\", is \"" + want + "\"", got.toString().equals(want), true);
    }

    /** The values of a key, a digit for each sign. */
    static void wears(TextMarks x, int node, int key, String want) {
        StringBuilder got = new StringBuilder();
        int size = x.total(node, 0);
        for (int i = 0; i < size; i++) {
            got.append(x.styled(node, i, key));
        }
        is("key " + key + " at node " + node + ", " + got + ", is " + want, got.toString().equals(want), true);
    }

    static void rowIs(TextMarks x, int row, int... want) {
        for (int what = 0; what < want.length; what++) {
            is("row(" + row + ", " + what + ")", x.row(row, what), want[what]);
        }
    }

    static void lie(TextMarks x, int node, int comment, int from, int to) {
        is("lies(" + node + ", " + comment + ", 0)", x.lies(node, comment, 0), from);
        is("lies(" + node + ", " + comment + ", 1)", x.lies(node, comment, 1), to);
    }
}
