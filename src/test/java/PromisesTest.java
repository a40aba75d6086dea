/** Each promise of the document by itself: ordinary calls, the edges that it names, wrong inputs. */
public final class PromisesTest extends Asking {
    private static final int[] NO_NODES = {-1, 4, MIN, MAX};

    public static void main(String[] args) {
        begin("PromisesTest");
        aNewObject();
        insert();
        insertsAtOnce();
        insertsUnderOneAnother();
        delete();
        style();
        comment();
        block();
        undo();
        see();
        meet();
        signAndId();
        unit();
        styled();
        stylesAtOnce();
        run();
        lies();
        paragraph();
        row();
        alike();
        alikeByParts();
        total();
        fullOfRows();
        end();
    }

    private static void aNewObject() {
        part("promise 1");
        TextMarks x = new TextMarks();
        int[] totals = {0, 0, 0, 1, 0, 0, 0};
        for (int node = 0; node < 4; node++) {
            for (int what = 0; what < totals.length; what++) {
                is("total(" + node + ", " + what + ")", x.total(node, what), totals[what]);
            }
            is("sign(" + node + ", 0)", x.sign(node, 0), NONE);
            is("alike(0, " + node + ")", x.alike(0, node), true);
        }
        is("row(0, 0)", x.row(0, 0), NONE);
        is("row(1, 0)", x.row(1, 0), NONE);
        is("see(0, 1)", x.see(0, 1), false);
        is("the first row's number", x.insert(3, 0, 97), 1);
        is("another object is not changed", new TextMarks().total(3, 5), 0);
    }

    private static void insert() {
        part("promise 2");
        TextMarks x = new TextMarks();
        is("insert(1, 0, 97)", x.insert(1, 0, 97), 1);
        is("insert(1, 1, 99)", x.insert(1, 1, 99), 2);
        is("insert(1, 1, 98)", x.insert(1, 1, 98), 3);
        is("insert(1, 0, 95)", x.insert(1, 0, 95), 4);
        reads(x, 1, "_abc");
        rowIs(x, 1, 0, 1, 1, 97, 0, 0, 0);
        rowIs(x, 2, 0, 1, 2, 99, 0, 1, 0);
        rowIs(x, 3, 0, 1, 3, 98, 0, 1, 0);
        rowIs(x, 4, 0, 1, 4, 95, 0, 0, 0);
        reads(x, 0, "");
        for (int node : NO_NODES) {
            is("insert(" + node + ", 0, 97)", x.insert(node, 0, 97), NONE);
        }
        for (int at : new int[] {-1, 5, MIN, MAX}) {
            is("insert(1, " + at + ", 97)", x.insert(1, at, 97), NONE);
        }
        for (int sign : new int[] {MIN, -1, 0, 9, 11, 31, 55296, 56320, 57343, 1114112, MAX}) {
            is("insert(1, 0, " + sign + ")", x.insert(1, 0, sign), NONE);
        }
        is("wrong calls make no rows", x.total(1, 5), 4);
        is("nor do they take time", x.total(1, 6), 4);
        int number = 5;
        for (int sign : new int[] {10, 32, 55295, 57344, 65535, 65536, 1114111}) {
            is("insert(1, 0, " + sign + ")", x.insert(1, 0, sign), number++);
            is("sign(1, 0)", x.sign(1, 0), sign);
        }
        is("insert at the end", x.insert(1, 11, 122), 12);
        is("sign(1, 11)", x.sign(1, 11), 122);
        is("row(12, 5)", x.row(12, 5), 2);
    }

    private static void insertsAtOnce() {
        part("promise 2, places");
        TextMarks x = written("ab");
        x.meet(1, 0);
        x.meet(2, 0);
        write(x, 0, 1, "01");
        write(x, 1, 1, "23");
        write(x, 2, 1, "4");
        x.meet(2, 0);
        x.meet(2, 1);
        // Behind "a", of the same time 3: the greatest node first, each with what is behind it.
        reads(x, 2, "a42301b");
        x.meet(0, 1);
        reads(x, 0, "a2301b");
        x.meet(0, 2);
        reads(x, 0, "a42301b");
        x.insert(0, 1, 'X');
        reads(x, 0, "aX42301b");
        // Node 1 has seen nothing of the others: its row is of time 5, that of "X" is of time 5 too.
        x.insert(1, 1, 'Y');
        is("row(8, 2)", x.row(8, 2), 5);
        is("row(9, 2)", x.row(9, 2), 5);
        x.meet(0, 1);
        reads(x, 0, "aYX42301b");
        x.meet(1, 0);
        reads(x, 1, "aYX42301b");
    }

    private static void insertsUnderOneAnother() {
        part("promise 2, behind what is not seen");
        TextMarks x = written("abc");
        x.meet(1, 0);
        x.delete(0, 1);
        reads(x, 0, "ac");
        // Behind "a", not behind the deleted "b": it is the later one there, so it goes ahead of "b".
        is("insert(0, 1, x)", x.insert(0, 1, 'x'), 5);
        is("row(5, 5)", x.row(5, 5), 1);
        is("insert(1, 2, y)", x.insert(1, 2, 'y'), 6);
        is("row(6, 5)", x.row(6, 5), 2);
        x.meet(0, 1);
        reads(x, 0, "axyc");
        x.undo(0, 4);
        // "y" is of time 4, "c" of time 3, both behind "b".
        reads(x, 0, "axbyc");
        x.undo(0, 2);
        reads(x, 0, "axyc");
        is("places stay", x.total(0, 4), 5);
    }

    private static void delete() {
        part("promise 3");
        TextMarks x = written("abc");
        x.meet(1, 0);
        is("delete(0, 1)", x.delete(0, 1), 4);
        rowIs(x, 4, 1, 0, 4, 0, 0, 2, 0);
        reads(x, 0, "ac");
        reads(x, 1, "abc");
        is("delete(1, 1)", x.delete(1, 1), 5);
        x.meet(0, 1);
        x.undo(0, 4);
        reads(x, 0, "ac");
        x.meet(1, 0);
        x.undo(1, 5);
        reads(x, 1, "abc");
        reads(x, 0, "ac");
        for (int node : NO_NODES) {
            is("delete(" + node + ", 0)", x.delete(node, 0), NONE);
        }
        for (int at : new int[] {-1, 2, MIN, MAX}) {
            is("delete(0, " + at + ")", x.delete(0, at), NONE);
        }
        is("delete(2, 0)", x.delete(2, 0), NONE);
        x.delete(0, 1);
        x.delete(0, 0);
        reads(x, 0, "");
        is("delete(0, 0)", x.delete(0, 0), NONE);
    }

    private static void style() {
        part("promise 4");
        TextMarks x = written("abcd");
        is("style(0, 1, 3, 0, 9)", x.style(0, 1, 3, 0, 9), 5);
        rowIs(x, 5, 2, 0, 5, 0, 9, 2, 4);
        is("style(0, 1, 4, 1, 8)", x.style(0, 1, 4, 1, 8), 6);
        rowIs(x, 6, 2, 0, 6, 1, 8, 2, 0);
        is("style(0, 1, 3, 2, 7)", x.style(0, 1, 3, 2, 7), 7);
        rowIs(x, 7, 2, 0, 7, 2, 7, 2, 3);
        is("style(0, 3, 4, 3, 0)", x.style(0, 3, 4, 3, 0), 8);
        rowIs(x, 8, 2, 0, 8, 3, 0, 4, 4);
        wears(x, 0, 0, "0990");
        wears(x, 0, 1, "0888");
        wears(x, 0, 2, "0770");
        wears(x, 0, 3, "0000");
        for (int node : NO_NODES) {
            is("style(" + node + ", 0, 1, 0, 1)", x.style(node, 0, 1, 0, 1), NONE);
        }
        int[][] noPlaces = {{0, 0}, {2, 1}, {-1, 1}, {0, 5}, {4, 5}, {4, 4}, {MIN, MAX}, {0, MAX}, {MIN, 1}, {3, MIN}};
        for (int[] range : noPlaces) {
            is("style(0, " + range[0] + ", " + range[1] + ", 0, 1)", x.style(0, range[0], range[1], 0, 1), NONE);
        }
        for (int key : new int[] {-1, 4, MIN, MAX}) {
            is("style(0, 0, 1, " + key + ", 1)", x.style(0, 0, 1, key, 1), NONE);
        }
        for (int value : new int[] {-1, 10, MIN, MAX}) {
            is("style(0, 0, 1, 0, " + value + ")", x.style(0, 0, 1, 0, value), NONE);
        }
        is("style(1, 0, 1, 0, 1)", x.style(1, 0, 1, 0, 1), NONE);
        is("wrong calls make no rows", x.total(0, 5), 8);
    }

    private static void comment() {
        part("promise 5");
        TextMarks x = written("abcd");
        is("comment(0, 1, 3)", x.comment(0, 1, 3), 5);
        rowIs(x, 5, 3, 0, 5, 0, 0, 2, 3);
        is("comment(0, 3, 4)", x.comment(0, 3, 4), 6);
        rowIs(x, 6, 3, 0, 6, 0, 0, 4, 4);
        for (int node : NO_NODES) {
            is("comment(" + node + ", 0, 1)", x.comment(node, 0, 1), NONE);
        }
        int[][] noPlaces = {{0, 0}, {2, 1}, {-1, 1}, {0, 5}, {4, 5}, {4, 4}, {MIN, MAX}, {0, MAX}, {MIN, 1}};
        for (int[] range : noPlaces) {
            is("comment(0, " + range[0] + ", " + range[1] + ")", x.comment(0, range[0], range[1]), NONE);
        }
        is("comment(1, 0, 1)", x.comment(1, 0, 1), NONE);
        is("wrong calls make no rows", x.total(0, 5), 6);
    }

    private static void block() {
        part("promise 6");
        TextMarks x = written("a\n\nb");
        is("block(0, 0, 9)", x.block(0, 0, 9), 5);
        rowIs(x, 5, 4, 0, 5, 9, 0, 0, 0);
        is("block(0, 1, 1)", x.block(0, 1, 1), 6);
        rowIs(x, 6, 4, 0, 6, 1, 0, 2, 0);
        is("block(0, 2, 0)", x.block(0, 2, 0), 7);
        rowIs(x, 7, 4, 0, 7, 0, 0, 3, 0);
        for (int node : NO_NODES) {
            is("block(" + node + ", 0, 1)", x.block(node, 0, 1), NONE);
        }
        for (int k : new int[] {-1, 3, MIN, MAX}) {
            is("block(0, " + k + ", 1)", x.block(0, k, 1), NONE);
        }
        for (int kind : new int[] {-1, 10, MIN, MAX}) {
            is("block(0, 0, " + kind + ")", x.block(0, 0, kind), NONE);
        }
        is("block(1, 0, 3) of an empty text", x.block(1, 0, 3), 8);
        is("row(8, 2)", x.row(8, 2), 1);
        // Of time 1, so ahead of the one of time 5 in the order.
        x.meet(0, 1);
        is("paragraph(0, 0, 2)", x.paragraph(0, 0, 2), 9);
        x.undo(0, 5);
        is("paragraph(0, 0, 2)", x.paragraph(0, 0, 2), 3);
    }

    private static void undo() {
        part("promise 7");
        TextMarks x = written("a\nc");
        x.style(0, 0, 3, 2, 5);
        x.comment(0, 0, 2);
        x.block(0, 1, 6);
        x.delete(0, 2);
        x.meet(1, 0);
        is("undo(1, 4)", x.undo(1, 4), NONE);
        is("undo(0, 7) of a delete", x.undo(0, 7), 8);
        rowIs(x, 8, 5, 0, 8, 0, 0, 7, 0);
        reads(x, 0, "a\nc");
        reads(x, 1, "a\n");
        is("undo(0, 4) of a style", x.undo(0, 4), 9);
        wears(x, 0, 2, "000");
        is("undo(0, 5) of a comment", x.undo(0, 5), 10);
        is("lies(0, 5, 0)", x.lies(0, 5, 0), NONE);
        is("lies(1, 5, 0)", x.lies(1, 5, 0), 0);
        is("undo(0, 6) of a block", x.undo(0, 6), 11);
        is("paragraph(0, 1, 2)", x.paragraph(0, 1, 2), 0);
        is("paragraph(1, 1, 2)", x.paragraph(1, 1, 2), 6);
        is("undo(0, 2) of an insert", x.undo(0, 2), 12);
        reads(x, 0, "ac");
        is("paragraphs", x.total(0, 3), 1);
        is("undo(0, 2) again", x.undo(0, 2), NONE);
        is("undo(0, 12) of an undo", x.undo(0, 12), NONE);
        for (int row : new int[] {0, -1, 13, 250, 251, MIN, MAX}) {
            is("undo(0, " + row + ")", x.undo(0, row), NONE);
        }
        for (int node : NO_NODES) {
            is("undo(" + node + ", 1)", x.undo(node, 1), NONE);
        }
        is("rows", x.total(0, 5), 12);
    }

    private static void see() {
        part("promise 8");
        TextMarks x = written("abc");
        x.style(0, 0, 1, 0, 3);
        x.style(0, 1, 3, 1, 4);
        x.delete(0, 0);
        x.undo(0, 6);
        is("see(1, 2) without 1", x.see(1, 2), false);
        is("see(1, 4) without both", x.see(1, 4), false);
        is("see(1, 1)", x.see(1, 1), true);
        is("time", x.total(1, 6), 1);
        is("see(1, 1) again", x.see(1, 1), false);
        is("see(0, 1), its own", x.see(0, 1), false);
        is("see(1, 4) without the second", x.see(1, 4), false);
        is("see(1, 7) without 6", x.see(1, 7), false);
        is("see(1, 6) without those between", x.see(1, 6), true);
        is("time", x.total(1, 6), 6);
        reads(x, 1, "");
        is("see(1, 2)", x.see(1, 2), true);
        is("time stays", x.total(1, 6), 6);
        is("see(1, 4)", x.see(1, 4), true);
        is("see(1, 5), whose end is 0", x.see(1, 5), true);
        reads(x, 1, "b");
        is("see(1, 7)", x.see(1, 7), true);
        reads(x, 1, "ab");
        wears(x, 1, 0, "30");
        wears(x, 1, 1, "04");
        is("rows", x.total(1, 5), 6);
        is("a row of node 1 gets 1 more", x.row(x.insert(1, 0, 'z'), 2), 8);
        for (int row : new int[] {0, -1, 9, 250, 251, MIN, MAX}) {
            is("see(1, " + row + ")", x.see(1, row), false);
        }
        for (int node : NO_NODES) {
            is("see(" + node + ", 1)", x.see(node, 1), false);
        }
        is("see(2, 1)", x.see(2, 1), true);
        is("block of the beginning needs nothing", x.see(3, x.block(2, 0, 1)), true);
    }

    private static void meet() {
        part("promise 9");
        TextMarks x = written("abc");
        write(x, 1, 0, "xy");
        is("meet(2, 3)", x.meet(2, 3), 0);
        x.see(1, 1);
        is("meet(1, 0)", x.meet(1, 0), 2);
        is("meet(1, 0) again", x.meet(1, 0), 0);
        is("only the first one sees", x.total(0, 5), 3);
        is("time of node 1", x.total(1, 6), 3);
        // Of time 1 both; the greater node's first: it is the last one in order.
        reads(x, 1, "xyabc");
        is("meet(2, 1)", x.meet(2, 1), 5);
        is("time of node 2", x.total(2, 6), 3);
        is("meet(0, 2)", x.meet(0, 2), 2);
        is("time of node 0", x.total(0, 6), 3);
        is("alike(0, 2)", x.alike(0, 2), true);
        is("meet(0, 0)", x.meet(0, 0), NONE);
        for (int node : NO_NODES) {
            is("meet(" + node + ", 0)", x.meet(node, 0), NONE);
            is("meet(0, " + node + ")", x.meet(0, node), NONE);
        }
    }

    private static void signAndId() {
        part("promises 10 and 11");
        TextMarks x = written("ac");
        x.insert(0, 1, 1114111);
        x.delete(0, 0);
        is("sign(0, 0)", x.sign(0, 0), 1114111);
        is("id(0, 0)", x.id(0, 0), 3);
        is("sign(0, 1)", x.sign(0, 1), 'c');
        is("id(0, 1)", x.id(0, 1), 2);
        for (int i : new int[] {-1, 2, 250, 251, MIN, MAX}) {
            is("sign(0, " + i + ")", x.sign(0, i), NONE);
            is("id(0, " + i + ")", x.id(0, i), NONE);
        }
        for (int node : NO_NODES) {
            is("sign(" + node + ", 0)", x.sign(node, 0), NONE);
            is("id(" + node + ", 0)", x.id(node, 0), NONE);
        }
        is("sign(1, 0)", x.sign(1, 0), NONE);
    }

    private static void unit() {
        part("promise 12");
        TextMarks x = new TextMarks();
        int[] signs = {97, 65535, 65536, 128512, 1114111, 10};
        int[] units = {97, 65535, 55296, 56320, 55357, 56832, 56319, 57343, 10};
        for (int i = 0; i < signs.length; i++) {
            x.insert(0, i, signs[i]);
        }
        for (int i = 0; i < units.length; i++) {
            is("unit(0, " + i + ")", x.unit(0, i), units[i]);
        }
        is("total(0, 1)", x.total(0, 1), units.length);
        x.delete(0, 2);
        is("unit(0, 2)", x.unit(0, 2), 55357);
        for (int i : new int[] {-1, 7, MIN, MAX}) {
            is("unit(0, " + i + ")", x.unit(0, i), NONE);
        }
        for (int node : NO_NODES) {
            is("unit(" + node + ", 0)", x.unit(node, 0), NONE);
        }
        is("unit(1, 0)", x.unit(1, 0), NONE);
    }

    private static void styled() {
        part("promise 13");
        TextMarks x = written("abc");
        x.style(0, 0, 2, 0, 5);
        x.style(0, 0, 2, 1, 6);
        x.style(0, 0, 2, 2, 7);
        x.style(0, 0, 2, 3, 8);
        x.insert(0, 2, 'x');
        x.insert(0, 0, 'y');
        reads(x, 0, "yabxc");
        wears(x, 0, 0, "05550");
        wears(x, 0, 1, "06660");
        wears(x, 0, 2, "07700");
        wears(x, 0, 3, "08800");
        // The ends stay where they were, whatever is deleted.
        x.delete(0, 1);
        x.delete(0, 1);
        x.delete(0, 2);
        reads(x, 0, "yx");
        wears(x, 0, 0, "05");
        wears(x, 0, 2, "00");
        x.insert(0, 2, 'z');
        reads(x, 0, "yxz");
        wears(x, 0, 0, "055");
        for (int key : new int[] {-1, 4, MIN, MAX}) {
            is("styled(0, 0, " + key + ")", x.styled(0, 0, key), NONE);
        }
        for (int i : new int[] {-1, 3, MIN, MAX}) {
            is("styled(0, " + i + ", 0)", x.styled(0, i, 0), NONE);
        }
        for (int node : NO_NODES) {
            is("styled(" + node + ", 0, 0)", x.styled(node, 0, 0), NONE);
        }
        is("styled(1, 0, 0)", x.styled(1, 0, 0), NONE);
    }

    private static void stylesAtOnce() {
        part("promise 13, the last one in order");
        TextMarks x = written("abcd");
        x.meet(1, 0);
        x.meet(2, 0);
        x.style(1, 0, 3, 3, 4);
        x.style(0, 1, 4, 3, 5);
        x.meet(2, 1);
        wears(x, 2, 3, "4440");
        x.meet(2, 0);
        // Both of time 5: the greater node's is the last one, though it was made and seen first.
        wears(x, 2, 3, "4445");
        x.undo(1, 5);
        x.meet(2, 1);
        wears(x, 2, 3, "0555");
        x.style(2, 1, 3, 3, 0);
        wears(x, 2, 3, "0005");
        x.style(0, 0, 4, 0, 2);
        x.meet(2, 0);
        wears(x, 2, 0, "2222");
        x.insert(2, 4, 'e');
        wears(x, 2, 0, "22222");
        wears(x, 2, 3, "00050");
        // A style whose FROM is undone begins at its place all the same.
        x.undo(0, 1);
        wears(x, 0, 0, "222");
    }

    private static void run() {
        part("promise 14");
        TextMarks x = written("abcdef");
        x.style(0, 1, 3, 0, 1);
        x.style(0, 2, 5, 3, 2);
        int[][] runs = {{0, 1, 0, 0, 0, 0}, {1, 1, 1, 0, 0, 0}, {2, 1, 1, 0, 0, 2}, {3, 2, 0, 0, 0, 2}, {5, 1, 0, 0, 0, 0}};
        for (int k = 0; k < runs.length; k++) {
            for (int what = 0; what < 6; what++) {
                is("run(0, " + k + ", " + what + ")", x.run(0, k, what), runs[k][what]);
            }
        }
        is("total(0, 2)", x.total(0, 2), 5);
        for (int what : new int[] {-1, 6, MIN, MAX}) {
            is("run(0, 0, " + what + ")", x.run(0, 0, what), NONE);
        }
        for (int k : new int[] {-1, 5, MIN, MAX}) {
            is("run(0, " + k + ", 0)", x.run(0, k, 0), NONE);
        }
        for (int node : NO_NODES) {
            is("run(" + node + ", 0, 0)", x.run(node, 0, 0), NONE);
        }
        is("run(1, 0, 0) of an empty text", x.run(1, 0, 0), NONE);
        x.delete(0, 2);
        x.delete(0, 2);
        x.delete(0, 2);
        x.delete(0, 1);
        reads(x, 0, "af");
        is("run(0, 0, 1)", x.run(0, 0, 1), 2);
        is("total(0, 2)", x.total(0, 2), 1);
    }

    private static void lies() {
        part("promise 15");
        TextMarks x = written("abcd");
        is("comment(0, 1, 3)", x.comment(0, 1, 3), 5);
        is("comment(0, 3, 4)", x.comment(0, 3, 4), 6);
        lie(x, 0, 5, 1, 3);
        lie(x, 0, 6, 3, 4);
        x.insert(0, 3, 'y');
        x.insert(0, 1, 'x');
        reads(x, 0, "axbcyd");
        lie(x, 0, 5, 2, 4);
        lie(x, 0, 6, 5, 6);
        x.insert(0, 3, 'z');
        lie(x, 0, 5, 2, 5);
        x.delete(0, 2);
        reads(x, 0, "axzcyd");
        lie(x, 0, 5, 2, 4);
        x.delete(0, 3);
        x.delete(0, 2);
        reads(x, 0, "axyd");
        lie(x, 0, 5, 2, 2);
        x.delete(0, 3);
        lie(x, 0, 6, 3, 3);
        lie(x, 1, 5, NONE, NONE);
        x.meet(1, 0);
        lie(x, 1, 5, 2, 2);
        is("undo(0, 5)", x.undo(0, 5), 14);
        lie(x, 0, 5, NONE, NONE);
        lie(x, 1, 5, 2, 2);
        for (int row : new int[] {0, -1, 1, 14, 15, 250, 251, MIN, MAX}) {
            lie(x, 0, row, NONE, NONE);
        }
        for (int side : new int[] {-1, 2, MIN, MAX}) {
            is("lies(0, 6, " + side + ")", x.lies(0, 6, side), NONE);
        }
        for (int node : NO_NODES) {
            lie(x, node, 6, NONE, NONE);
        }
    }

    private static void paragraph() {
        part("promise 16");
        TextMarks x = written("\nab\n\nc\n");
        x.block(0, 0, 1);
        x.block(0, 1, 2);
        x.block(0, 3, 4);
        x.block(0, 4, 5);
        x.block(0, 3, 6);
        int[][] want = {{0, 0, 1}, {1, 2, 2}, {4, 0, 0}, {5, 1, 6}, {7, 0, 5}};
        for (int k = 0; k < want.length; k++) {
            for (int what = 0; what < 3; what++) {
                is("paragraph(0, " + k + ", " + what + ")", x.paragraph(0, k, what), want[k][what]);
            }
        }
        is("total(0, 3)", x.total(0, 3), 5);
        TextMarks fresh = new TextMarks();
        fresh.block(2, 0, 8);
        is("of an empty text, told by the only row", fresh.paragraph(2, 0, 2), 8);
        x.delete(0, 0);
        is("the first one's kind stays", x.paragraph(0, 0, 2), 1);
        is("its signs", x.paragraph(0, 0, 1), 2);
        x.undo(0, 12);
        is("the one told before", x.paragraph(0, 2, 2), 4);
        for (int k : new int[] {-1, 4, MIN, MAX}) {
            is("paragraph(0, " + k + ", 0)", x.paragraph(0, k, 0), NONE);
        }
        for (int what : new int[] {-1, 3, MIN, MAX}) {
            is("paragraph(0, 0, " + what + ")", x.paragraph(0, 0, what), NONE);
        }
        for (int node : NO_NODES) {
            is("paragraph(" + node + ", 0, 0)", x.paragraph(node, 0, 0), NONE);
        }
        for (int what = 0; what < 3; what++) {
            is("paragraph(1, 0, " + what + ") of an empty text", x.paragraph(1, 0, what), 0);
        }
        x.meet(1, 0);
        x.meet(2, 0);
        x.block(2, 0, 7);
        x.block(1, 0, 8);
        x.meet(1, 2);
        is("of the same time the greater node's", x.paragraph(1, 0, 2), 7);
    }

    private static void row() {
        part("promise 17");
        TextMarks x = written("ab\n");
        x.meet(3, 0);
        is("delete(3, 1)", x.delete(3, 1), 4);
        x.style(3, 0, 2, 1, 9);
        x.style(3, 0, 2, 2, 8);
        x.comment(3, 0, 2);
        x.block(3, 1, 7);
        x.undo(3, 5);
        x.insert(0, 3, 1114111);
        rowIs(x, 1, 0, 0, 1, 'a', 0, 0, 0);
        rowIs(x, 2, 0, 0, 2, 'b', 0, 1, 0);
        rowIs(x, 3, 0, 0, 3, 10, 0, 2, 0);
        rowIs(x, 4, 1, 3, 4, 0, 0, 2, 0);
        rowIs(x, 5, 2, 3, 5, 1, 9, 1, 0);
        rowIs(x, 6, 2, 3, 6, 2, 8, 1, 3);
        rowIs(x, 7, 3, 3, 7, 0, 0, 1, 3);
        rowIs(x, 8, 4, 3, 8, 7, 0, 3, 0);
        rowIs(x, 9, 5, 3, 9, 0, 0, 5, 0);
        rowIs(x, 10, 0, 0, 4, 1114111, 0, 3, 0);
        for (int what : new int[] {-1, 7, MIN, MAX}) {
            is("row(1, " + what + ")", x.row(1, what), NONE);
        }
        for (int number : new int[] {0, -1, 11, 250, 251, MIN, MAX}) {
            is("row(" + number + ", 0)", x.row(number, 0), NONE);
        }
    }

    private static void alike() {
        part("promise 18");
        TextMarks x = written("a");
        is("alike(0, 1)", x.alike(0, 1), false);
        is("alike(0, 0)", x.alike(0, 0), true);
        x.insert(1, 0, 'a');
        is("the same signs of other inserts", x.alike(0, 1), true);
        x.insert(1, 0, 'a');
        is("a longer one", x.alike(0, 1), false);
        is("a shorter one", x.alike(1, 0), false);
        x.delete(1, 0);
        is("places don't count", x.alike(0, 1), true);
        x.insert(2, 0, 'b');
        is("another sign", x.alike(0, 2), false);
        for (int node : NO_NODES) {
            is("alike(" + node + ", 0)", x.alike(node, 0), false);
            is("alike(0, " + node + ")", x.alike(0, node), false);
            is("alike(" + node + ", " + node + ")", x.alike(node, node), false);
        }
    }

    private static void alikeByParts() {
        part("promise 18, each part");
        for (int key = 0; key < 4; key++) {
            TextMarks x = written("ab\n");
            x.meet(1, 0);
            is("style", x.style(0, 2, 3, key, 1), 4);
            is("other values of key " + key, x.alike(0, 1), false);
            x.undo(0, 4);
            is("undone", x.alike(1, 0), true);
            x.style(0, 0, 1, key, 0);
            is("a style that changes no value", x.alike(0, 1), true);
        }
        TextMarks x = written("ab\n");
        x.meet(1, 0);
        x.comment(0, 0, 1);
        is("another comment", x.alike(0, 1), false);
        is("another comment", x.alike(1, 0), false);
        x.comment(1, 0, 1);
        is("one comment each, not the same", x.alike(0, 1), false);
        x.undo(0, 4);
        x.undo(1, 5);
        is("undone", x.alike(0, 1), true);
        x.block(0, 1, 2);
        is("another kind", x.alike(0, 1), false);
        x.block(1, 1, 2);
        is("the same kind by another block", x.alike(0, 1), true);
        x.block(1, 0, 3);
        is("another kind of the first", x.alike(0, 1), false);
        x.block(1, 0, 0);
        is("kind 0 told", x.alike(0, 1), true);

        TextMarks z = written("\n");
        z.meet(1, 0);
        z.block(1, 1, 4);
        is("another kind behind a sign 10 at place 0", z.alike(0, 1), false);

        TextMarks y = written("aa");
        y.comment(0, 0, 2);
        y.meet(1, 0);
        is("alike(0, 1)", y.alike(0, 1), true);
        y.delete(0, 0);
        y.delete(1, 1);
        y.insert(0, 0, 'a');
        y.insert(1, 0, 'a');
        is("both read aa", y.total(0, 0) == 2 && y.total(1, 0) == 2, true);
        lie(y, 0, 3, 1, 2);
        lie(y, 1, 3, 1, 2);
        is("comments at the same places", y.alike(0, 1), true);
        y.delete(1, 1);
        y.insert(1, 1, 'a');
        lie(y, 1, 3, 2, 2);
        is("the comment lies elsewhere", y.alike(0, 1), false);
    }

    private static void total() {
        part("promise 19");
        TextMarks x = written("ab\nc");
        x.insert(0, 0, 65536);
        x.delete(0, 1);
        x.undo(0, 2);
        x.style(0, 0, 1, 2, 3);
        x.see(1, 1);
        x.see(1, 6);
        int[] want = {3, 4, 2, 2, 5, 8, 8};
        int[] other = {0, 0, 0, 1, 1, 2, 6};
        for (int what = 0; what < want.length; what++) {
            is("total(0, " + what + ")", x.total(0, what), want[what]);
            is("total(1, " + what + ")", x.total(1, what), other[what]);
        }
        for (int what : new int[] {-1, 7, MIN, MAX}) {
            is("total(0, " + what + ")", x.total(0, what), NONE);
        }
        for (int node : NO_NODES) {
            for (int what = 0; what < 7; what++) {
                is("total(" + node + ", " + what + ")", x.total(node, what), NONE);
            }
        }
    }

    private static void fullOfRows() {
        part("250 rows");
        TextMarks x = new TextMarks();
        for (int i = 0; i < 249; i++) {
            x.insert(0, i, i == 100 ? 10 : 'a');
        }
        is("the last row", x.insert(1, 0, 'b'), 250);
        is("insert", x.insert(0, 0, 'a'), NONE);
        is("delete", x.delete(0, 0), NONE);
        is("style", x.style(0, 0, 1, 0, 0), NONE);
        is("comment", x.comment(0, 0, 1), NONE);
        is("block", x.block(0, 0, 0), NONE);
        is("undo", x.undo(0, 1), NONE);
        is("rows", x.total(0, 5), 249);
        is("time", x.total(0, 6), 249);
        is("see(0, 250)", x.see(0, 250), true);
        is("meet(1, 0)", x.meet(1, 0), 249);
        is("alike(0, 1)", x.alike(0, 1), true);
        is("sign(1, 0)", x.sign(1, 0), 'b');
        is("id(1, 249)", x.id(1, 249), 249);
        is("row(250, 3)", x.row(250, 3), 'b');
        is("row(251, 0)", x.row(251, 0), NONE);
        is("paragraph(1, 1, 0)", x.paragraph(1, 1, 0), 102);
        is("paragraph(1, 1, 1)", x.paragraph(1, 1, 1), 148);
        is("run(1, 0, 1)", x.run(1, 0, 1), 250);
    }
}
