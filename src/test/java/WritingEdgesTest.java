/** The boundary cases that the document names in its promises 1 to 9, which make rows or let nodes see them. */
public final class WritingEdgesTest extends Edges {
    public static void main(String[] args) {
        begin("WritingEdgesTest");
        edge("Promise 1", "No ROWS", WritingEdgesTest::newHasNoRows);
        edge("Promise 1", "No ROWS", "so nothing to read but one empty paragraph", WritingEdgesTest::newHasNothingToRead);
        edge("Promise 1", "No ROWS", "whatever other objects have", WritingEdgesTest::newIsByItself);
        promise2();
        promise3();
        promise4();
        promise5();
        promise6();
        promise7();
        promise8();
        promise9();
        end();
    }

    private static void promise2() {
        edge("Promise 2", "a place of its text (0 .. as many as are SEEN)", WritingEdgesTest::insertAtFirstAndLast);
        edge("Promise 2", "behind the INSERT of the SEEN SIGN ahead of it", WritingEdgesTest::insertBehindTheSeenOne);
        edge("Promise 2", "(0 at place 0)", WritingEdgesTest::insertAtPlace0);
        edge("Promise 2", "NONE if there is no such NODE", WritingEdgesTest::insertNoNode);
        edge("Promise 2", "NONE if there is no such .. place", WritingEdgesTest::insertNoPlace);
        edge("Promise 2", "NONE if there is no such .. SIGN", WritingEdgesTest::insertNoSign);
        edge("Promise 2", "or 250 ROWS were", WritingEdgesTest::insertWhenFull);
        edge("Promise 2", "NONE", "nothing is changed", WritingEdgesTest::insertRefused);
    }

    private static void promise3() {
        edge("Promise 3", "the SEEN SIGN at a place", "the first and the last", WritingEdgesTest::deleteFirstAndLast);
        edge("Promise 3", "NONE if there is no such NODE", WritingEdgesTest::deleteNoNode);
        edge("Promise 3", "NONE if there is no such .. place", WritingEdgesTest::deleteNoPlace);
        edge("Promise 3", "NONE if there is no such .. place", "an empty text", WritingEdgesTest::deleteOfNothing);
        edge("Promise 3", "or 250 ROWS were", WritingEdgesTest::deleteWhenFull);
        edge("Promise 3", "NONE", "nothing is changed", WritingEdgesTest::deleteRefused);
    }

    private static void promise4() {
        edge("Promise 4", "from place from to place to (that not)", WritingEdgesTest::styleOfOneAndOfAll);
        edge("Promise 4", "of a KEY that GROWS, of the one behind it (0 if there is none)", WritingEdgesTest::styleToTheEnd);
        edge("Promise 4", "NONE if there is no such NODE", WritingEdgesTest::styleNoNode);
        edge("Promise 4", "NONE if there is no such .. KEY", WritingEdgesTest::styleNoKey);
        edge("Promise 4", "NONE if there is no such .. value", WritingEdgesTest::styleNoValue);
        edge("Promise 4", "NONE if there is no such .. places", WritingEdgesTest::styleNoPlaces);
        edge("Promise 4", "(from is below to)", WritingEdgesTest::styleFromNotBelowTo);
        edge("Promise 4", "or 250 ROWS were", WritingEdgesTest::styleWhenFull);
        edge("Promise 4", "NONE", "nothing is changed", WritingEdgesTest::styleRefused);
    }

    private static void promise5() {
        edge("Promise 5", "FROM the INSERT of the first one TO that of the last one", WritingEdgesTest::commentOfOneAndOfAll);
        edge("Promise 5", "likewise", "no such NODE", WritingEdgesTest::commentNoNode);
        edge("Promise 5", "likewise", "no such places", WritingEdgesTest::commentNoPlaces);
        edge("Promise 5", "likewise", "from is below to", WritingEdgesTest::commentFromNotBelowTo);
        edge("Promise 5", "likewise", "250 ROWS were", WritingEdgesTest::commentWhenFull);
        edge("Promise 5", "likewise", "nothing is changed", WritingEdgesTest::commentRefused);
    }

    private static void promise6() {
        edge("Promise 6", "the k-th PARAGRAPH (from 0 on)", WritingEdgesTest::blockFirstAndLast);
        edge("Promise 6", "NONE if there is no such NODE", WritingEdgesTest::blockNoNode);
        edge("Promise 6", "NONE if there is no such .. PARAGRAPH", WritingEdgesTest::blockNoParagraph);
        edge("Promise 6", "NONE if there is no such .. kind", WritingEdgesTest::blockNoKind);
        edge("Promise 6", "or 250 ROWS were", WritingEdgesTest::blockWhenFull);
        edge("Promise 6", "NONE", "nothing is changed", WritingEdgesTest::blockRefused);
    }

    private static void promise7() {
        edge("Promise 7", "NONE if there is no such NODE", WritingEdgesTest::undoNoNode);
        edge("Promise 7", "NONE if there is no such .. ROW", WritingEdgesTest::undoNoRow);
        edge("Promise 7", "NONE if there is no such .. ROW of it", WritingEdgesTest::undoOfAnothers);
        edge("Promise 7", "NONE if there is no such .. ROW of it of the sorts 0 to 4", WritingEdgesTest::undoOfAnUndo);
        edge("Promise 7", "it was UNDONE", WritingEdgesTest::undoTwice);
        edge("Promise 7", "or 250 ROWS were", WritingEdgesTest::undoWhenFull);
        edge("Promise 7", "NONE", "nothing is changed", WritingEdgesTest::undoRefused);
    }

    private static void promise8() {
        edge("Promise 8", "false if there is no such NODE", WritingEdgesTest::seeNoNode);
        edge("Promise 8", "false if there is no such .. ROW", WritingEdgesTest::seeNoRow);
        edge("Promise 8", "it KNOWS it", WritingEdgesTest::seeTwice);
        edge("Promise 8", "or does not KNOW all that it NEEDS", "the first one", WritingEdgesTest::seeWithoutTheFirst);
        edge("Promise 8", "or does not KNOW all that it NEEDS", "the second one", WritingEdgesTest::seeWithoutTheSecond);
        edge("Promise 8", "false", "nothing is changed", WritingEdgesTest::seeRefused);
        edge("Promise 8", "sees a ROW: true", "also when 250 rows were", WritingEdgesTest::seeWhenFull);
    }

    private static void promise9() {
        edge("Promise 9", "how many it did not KNOW", "none, some, all", WritingEdgesTest::meetOfNoneSomeAll);
        edge("Promise 9", "all ROWS that another one KNOWS", "250 of them", WritingEdgesTest::meetWhenFull);
        edge("Promise 9", "NONE if there are no such NODES", "the first one", WritingEdgesTest::meetNoNode);
        edge("Promise 9", "NONE if there are no such NODES", "the other one", WritingEdgesTest::meetNoOther);
        edge("Promise 9", "or they are the same one", WritingEdgesTest::meetItself);
        edge("Promise 9", "NONE", "nothing is changed", WritingEdgesTest::meetRefused);
    }

    private static void newHasNoRows() {
        TextMarks x = new TextMarks();
        for (int what = 0; what < 7; what++) {
            is("row(0, " + what + ")", x.row(0, what), NONE);
            is("row(1, " + what + ")", x.row(1, what), NONE);
        }
        for (int node = 0; node < 4; node++) {
            is("places of node " + node, x.total(node, 4), 0);
            is("rows of node " + node, x.total(node, 5), 0);
            is("time of node " + node, x.total(node, 6), 0);
            is("see(" + node + ", 1)", x.see(node, 1), false);
            is("undo(" + node + ", 1)", x.undo(node, 1), NONE);
            is("meet of rows that are not", x.meet(node, (node + 1) % 4), 0);
        }
    }

    private static void newHasNothingToRead() {
        TextMarks x = new TextMarks();
        for (int node = 0; node < 4; node++) {
            is("signs", x.total(node, 0), 0);
            is("units", x.total(node, 1), 0);
            is("runs", x.total(node, 2), 0);
            is("paragraphs", x.total(node, 3), 1);
            is("sign", x.sign(node, 0), NONE);
            is("id", x.id(node, 0), NONE);
            is("unit", x.unit(node, 0), NONE);
            is("styled", x.styled(node, 0, 0), NONE);
            is("run", x.run(node, 0, 0), NONE);
            is("lies", x.lies(node, 1, 0), NONE);
            is("paragraph 0, place", x.paragraph(node, 0, 0), 0);
            is("paragraph 0, signs", x.paragraph(node, 0, 1), 0);
            is("paragraph 0, kind", x.paragraph(node, 0, 2), 0);
            is("paragraph 1", x.paragraph(node, 1, 0), NONE);
            is("alike", x.alike(0, node), true);
        }
    }

    private static void newIsByItself() {
        TextMarks x = written("ab");
        TextMarks y = new TextMarks();
        is("rows of a new one", y.total(0, 5), 0);
        is("its first row", y.insert(0, 0, 'c'), 1);
        reads(x, 0, "ab");
        reads(y, 0, "c");
    }

    private static void insertAtFirstAndLast() {
        TextMarks x = new TextMarks();
        is("at place 0 of an empty text", x.insert(0, 0, 'b'), 1);
        is("at place 1 of 1", x.insert(0, 1, 'c'), 2);
        is("at place 0 of 2", x.insert(0, 0, 'a'), 3);
        reads(x, 0, "abc");
        is("delete", x.delete(0, 1), 4);
        is("at place 3, though there are 3 places", x.insert(0, 3, 'd'), NONE);
        is("at place 2 of 2", x.insert(0, 2, 'd'), 5);
        reads(x, 0, "acd");
    }

    private static void insertBehindTheSeenOne() {
        TextMarks x = written("abc");
        x.delete(0, 1);
        x.undo(0, 3);
        is("at the end of \"a\"", x.insert(0, 1, 'x'), 6);
        is("behind \"a\", not what is deleted or undone", x.row(6, 5), 1);
        is("the last place", x.insert(0, 2, 'y'), 7);
        is("behind \"x\"", x.row(7, 5), 6);
    }

    private static void insertAtPlace0() {
        TextMarks x = written("ab");
        x.delete(0, 0);
        is("at place 0", x.insert(0, 0, 'x'), 4);
        is("behind the beginning, not what is deleted", x.row(4, 5), 0);
        reads(x, 0, "xb");
        is("by a node that knows none", x.row(x.insert(1, 0, 'y'), 5), 0);
    }

    private static void insertNoNode() {
        TextMarks x = written("ab");
        for (int node : noNodes()) {
            is("insert by node " + node, x.insert(node, 0, 'x'), NONE);
        }
        is("by node 3", x.insert(3, 0, 'x'), 3);
    }

    private static void insertNoPlace() {
        TextMarks x = written("ab");
        for (int at : outside(0, 2)) {
            is("insert at " + at, x.insert(0, at, 'x'), NONE);
        }
        is("at place 1 of a text that has none", x.insert(1, 1, 'x'), NONE);
        is("at place -1 of it", x.insert(1, -1, 'x'), NONE);
        is("at place 2", x.insert(0, 2, 'x'), 3);
    }

    private static void insertNoSign() {
        TextMarks x = new TextMarks();
        for (int sign : new int[] {MIN, -1, 0, 9, 11, 31, 55296, 57343, 1114112, MAX, 97 + MIN}) {
            is("insert of " + sign, x.insert(0, 0, sign), NONE);
        }
        is("of 32", x.insert(0, 0, 32), 1);
    }

    private static void insertWhenFull() {
        TextMarks x = writtenRows(ROWS - 1);
        is("the 250th row", x.insert(1, 0, 'b'), ROWS);
        is("by its node", x.insert(1, 1, 'c'), NONE);
        is("by another one", x.insert(0, 0, 'c'), NONE);
        is("signs of node 0", x.total(0, 0), ROWS - 1);
        is("signs of node 1", x.total(1, 0), 1);
        is("time of node 1", x.total(1, 6), 1);
    }

    private static void insertRefused() {
        TextMarks x = written("ab");
        unchanged(x, () -> {
            is("no node", x.insert(4, 0, 'x'), NONE);
            is("no place", x.insert(0, 3, 'x'), NONE);
            is("no place, place 0 being none", x.insert(0, -1, 'x'), NONE);
            is("no sign", x.insert(0, 0, 31), NONE);
            is("none of them", x.insert(-1, -1, -1), NONE);
        });
        is("the next row's time", x.row(x.insert(0, 0, 'x'), 2), 3);
    }

    private static void deleteFirstAndLast() {
        TextMarks x = written("abcd");
        is("the last one", x.delete(0, 3), 5);
        is("of \"d\"", x.row(5, 5), 4);
        is("the first one", x.delete(0, 0), 6);
        is("of \"a\"", x.row(6, 5), 1);
        is("the first one that is left", x.delete(0, 0), 7);
        is("of \"b\"", x.row(7, 5), 2);
        reads(x, 0, "c");
    }

    private static void deleteNoNode() {
        TextMarks x = written("ab");
        for (int node : noNodes()) {
            is("delete by node " + node, x.delete(node, 0), NONE);
        }
        reads(x, 0, "ab");
    }

    private static void deleteNoPlace() {
        TextMarks x = written("abc");
        x.delete(0, 2);
        for (int at : outside(0, 1)) {
            is("delete at " + at, x.delete(0, at), NONE);
        }
        is("at place 1", x.delete(0, 1), 5);
    }

    private static void deleteOfNothing() {
        TextMarks x = written("a");
        is("by a node that knows none", x.delete(1, 0), NONE);
        is("of the only sign", x.delete(0, 0), 2);
        is("of an emptied text", x.delete(0, 0), NONE);
        is("ahead of it", x.delete(0, -1), NONE);
    }

    private static void deleteWhenFull() {
        TextMarks x = writtenRows(ROWS - 1);
        is("the 250th row", x.delete(0, 248), ROWS);
        is("one more", x.delete(0, 0), NONE);
        is("signs", x.total(0, 0), 248);
        is("time", x.total(0, 6), ROWS);
    }

    private static void deleteRefused() {
        TextMarks x = written("ab");
        unchanged(x, () -> {
            is("no node", x.delete(4, 0), NONE);
            is("no place", x.delete(0, 2), NONE);
            is("no place", x.delete(0, -1), NONE);
            is("none of them", x.delete(-1, -1), NONE);
        });
        is("the next row's time", x.row(x.delete(0, 0), 2), 3);
    }

    private static void styleOfOneAndOfAll() {
        TextMarks x = written("abc");
        x.style(0, 0, 1, 2, 1);
        x.style(0, 2, 3, 2, 2);
        wears(x, 0, 2, "102");
        is("of all", x.style(0, 0, 3, 3, 3), 6);
        rowIs(x, 6, 2, 0, 6, 3, 3, 1, 3);
        wears(x, 0, 3, "333");
        is("of all but the last, growing", x.style(0, 0, 2, 0, 4), 7);
        rowIs(x, 7, 2, 0, 7, 0, 4, 1, 3);
        wears(x, 0, 0, "440");
    }

    private static void styleToTheEnd() {
        TextMarks x = written("abc");
        for (int key = 0; key < 2; key++) {
            is("there is one behind it", x.row(x.style(0, 1, 2, key, 1), 6), 3);
            is("there is none", x.row(x.style(0, 1, 3, key, 1), 6), 0);
        }
        x.delete(0, 2);
        is("the one behind it is deleted", x.row(x.style(0, 0, 2, 0, 1), 6), 0);
        x.delete(0, 1);
        is("the only sign", x.row(x.style(0, 0, 1, 1, 1), 6), 0);
    }

    private static void styleNoNode() {
        TextMarks x = written("ab");
        for (int node : noNodes()) {
            is("style by node " + node, x.style(node, 0, 1, 0, 1), NONE);
        }
        is("by node 0", x.style(0, 0, 1, 0, 1), 3);
    }

    private static void styleNoKey() {
        TextMarks x = written("ab");
        for (int key : outside(0, 3)) {
            is("style of key " + key, x.style(0, 0, 1, key, 1), NONE);
        }
        is("of key 3", x.style(0, 0, 1, 3, 1), 3);
        is("of key 0", x.style(0, 0, 1, 0, 1), 4);
    }

    private static void styleNoValue() {
        TextMarks x = written("ab");
        for (int value : outside(0, 9)) {
            is("style of value " + value, x.style(0, 0, 1, 0, value), NONE);
        }
        is("of value 9", x.style(0, 0, 1, 0, 9), 3);
        is("of value 0", x.style(0, 0, 1, 0, 0), 4);
    }

    private static void styleNoPlaces() {
        TextMarks x = written("abc");
        x.delete(0, 2);
        for (int key = 0; key < 4; key++) {
            for (int to : outside(0, 2)) {
                is("style to " + to, x.style(0, 0, to, key, 1), NONE);
            }
            for (int from : outside(0, 2)) {
                is("style from " + from, x.style(0, from, 2, key, 1), NONE);
            }
            is("of an empty text", x.style(1, 0, 1, key, 1), NONE);
            is("of both outside", x.style(0, MIN, MAX, key, 1), NONE);
            is("of all", x.style(0, 0, 2, key, 1), 5 + key);
        }
    }

    private static void styleFromNotBelowTo() {
        TextMarks x = written("abc");
        for (int key = 0; key < 4; key++) {
            for (int place = 0; place <= 3; place++) {
                is("from " + place + " to it", x.style(0, place, place, key, 1), NONE);
            }
            is("from 1 to 0", x.style(0, 1, 0, key, 1), NONE);
            is("from 3 to 2", x.style(0, 3, 2, key, 1), NONE);
            is("from 2 to the least", x.style(0, 2, MIN, key, 1), NONE);
            is("in an empty text", x.style(1, 0, 0, key, 1), NONE);
            is("from 2 to 3", x.style(0, 2, 3, key, 1), 4 + key);
        }
    }

    private static void styleWhenFull() {
        TextMarks x = writtenRows(ROWS - 1);
        is("the 250th row", x.style(0, 0, 249, 2, 5), ROWS);
        is("one more", x.style(0, 0, 249, 2, 6), NONE);
        is("the first sign's value", x.styled(0, 0, 2), 5);
        is("the last sign's value", x.styled(0, 248, 2), 5);
        is("time", x.total(0, 6), ROWS);
    }

    private static void styleRefused() {
        TextMarks x = written("ab");
        unchanged(x, () -> {
            is("no node", x.style(4, 0, 1, 0, 1), NONE);
            is("no places", x.style(0, 0, 3, 0, 1), NONE);
            is("no places", x.style(0, -1, 1, 0, 1), NONE);
            is("no places", x.style(0, 1, 1, 0, 1), NONE);
            is("no key", x.style(0, 0, 1, 4, 1), NONE);
            is("no value", x.style(0, 0, 1, 0, 10), NONE);
            is("none of them", x.style(-1, -1, -1, -1, -1), NONE);
        });
        is("the next row's time", x.row(x.style(0, 0, 1, 0, 1), 2), 3);
    }

    private static void commentOfOneAndOfAll() {
        TextMarks x = written("abc");
        is("of the first", x.comment(0, 0, 1), 4);
        rowIs(x, 4, 3, 0, 4, 0, 0, 1, 1);
        is("of the last", x.comment(0, 2, 3), 5);
        rowIs(x, 5, 3, 0, 5, 0, 0, 3, 3);
        is("of all", x.comment(0, 0, 3), 6);
        rowIs(x, 6, 3, 0, 6, 0, 0, 1, 3);
    }

    private static void commentNoNode() {
        TextMarks x = written("ab");
        for (int node : noNodes()) {
            is("comment by node " + node, x.comment(node, 0, 1), NONE);
        }
        is("by node 0", x.comment(0, 0, 1), 3);
    }

    private static void commentNoPlaces() {
        TextMarks x = written("abc");
        x.delete(0, 2);
        for (int to : outside(0, 2)) {
            is("comment to " + to, x.comment(0, 0, to), NONE);
        }
        for (int from : outside(0, 2)) {
            is("comment from " + from, x.comment(0, from, 2), NONE);
        }
        is("of an empty text", x.comment(1, 0, 1), NONE);
        is("of both outside", x.comment(0, MIN, MAX), NONE);
        is("of all", x.comment(0, 0, 2), 5);
    }

    private static void commentFromNotBelowTo() {
        TextMarks x = written("abc");
        for (int place = 0; place <= 3; place++) {
            is("from " + place + " to it", x.comment(0, place, place), NONE);
        }
        is("from 1 to 0", x.comment(0, 1, 0), NONE);
        is("from 3 to 2", x.comment(0, 3, 2), NONE);
        is("from 2 to the least", x.comment(0, 2, MIN), NONE);
        is("in an empty text", x.comment(1, 0, 0), NONE);
        is("from 2 to 3", x.comment(0, 2, 3), 4);
    }

    private static void commentWhenFull() {
        TextMarks x = writtenRows(ROWS - 1);
        is("the 250th row", x.comment(0, 0, 249), ROWS);
        is("one more", x.comment(0, 0, 249), NONE);
        lie(x, 0, 250, 0, 249);
        lie(x, 0, 251, NONE, NONE);
        is("time", x.total(0, 6), ROWS);
    }

    private static void commentRefused() {
        TextMarks x = written("ab");
        unchanged(x, () -> {
            is("no node", x.comment(4, 0, 1), NONE);
            is("no places", x.comment(0, 0, 3), NONE);
            is("no places", x.comment(0, -1, 1), NONE);
            is("no places", x.comment(0, 1, 1), NONE);
            is("none of them", x.comment(-1, -1, -1), NONE);
        });
        is("the next row's time", x.row(x.comment(0, 0, 1), 2), 3);
    }

    private static void blockFirstAndLast() {
        TextMarks x = written("a\nb\n");
        is("of paragraph 0", x.block(0, 0, 1), 5);
        is("for the beginning", x.row(5, 5), 0);
        is("of paragraph 1", x.block(0, 1, 2), 6);
        is("for the first sign 10", x.row(6, 5), 2);
        is("of paragraph 2, which has no signs", x.block(0, 2, 3), 7);
        is("for the last sign 10", x.row(7, 5), 4);
        is("of an empty text's only one", x.block(1, 0, 4), 8);
        is("for the beginning", x.row(8, 5), 0);
    }

    private static void blockNoNode() {
        TextMarks x = written("a\n");
        for (int node : noNodes()) {
            is("block by node " + node, x.block(node, 0, 1), NONE);
        }
        is("by node 0", x.block(0, 0, 1), 3);
    }

    private static void blockNoParagraph() {
        TextMarks x = written("\na\n");
        x.delete(0, 2);
        for (int k : outside(0, 1)) {
            is("block of paragraph " + k, x.block(0, k, 1), NONE);
        }
        is("paragraph 1 of an empty text", x.block(1, 1, 1), NONE);
        is("paragraph -1 of it", x.block(1, -1, 1), NONE);
        is("of paragraph 1", x.block(0, 1, 1), 5);
    }

    private static void blockNoKind() {
        TextMarks x = written("a\n");
        for (int kind : outside(0, 9)) {
            is("block of kind " + kind, x.block(0, 0, kind), NONE);
            is("of the last paragraph too", x.block(0, 1, kind), NONE);
        }
        is("of kind 9", x.block(0, 0, 9), 3);
        is("of kind 0", x.block(0, 0, 0), 4);
    }

    private static void blockWhenFull() {
        TextMarks x = writtenRows(ROWS - 1);
        is("the 250th row", x.block(0, 0, 5), ROWS);
        is("one more", x.block(0, 0, 6), NONE);
        is("kind", x.paragraph(0, 0, 2), 5);
        is("time", x.total(0, 6), ROWS);
    }

    private static void blockRefused() {
        TextMarks x = written("a\n");
        unchanged(x, () -> {
            is("no node", x.block(4, 0, 1), NONE);
            is("no paragraph", x.block(0, 2, 1), NONE);
            is("no paragraph", x.block(0, -1, 1), NONE);
            is("no kind", x.block(0, 0, 10), NONE);
            is("none of them", x.block(-1, -1, -1), NONE);
        });
        is("the next row's time", x.row(x.block(0, 0, 1), 2), 3);
    }

    private static void undoNoNode() {
        TextMarks x = written("ab");
        for (int node : noNodes()) {
            is("undo by node " + node, x.undo(node, 1), NONE);
            is("of no row either", x.undo(node, 0), NONE);
            is("of no row either", x.undo(node, 3), NONE);
        }
        reads(x, 0, "ab");
    }

    private static void undoNoRow() {
        TextMarks x = written("ab");
        for (int row : outside(1, 2)) {
            is("undo of row " + row, x.undo(0, row), NONE);
        }
        is("of row 250", x.undo(0, 250), NONE);
        is("of row 251", x.undo(0, 251), NONE);
        is("of row 2, the last one", x.undo(0, 2), 3);
        is("of row 1, the first one", x.undo(0, 1), 4);
        reads(x, 0, "");
    }

    private static void undoOfAnothers() {
        TextMarks x = written("ab");
        is("of one that it does not know", x.undo(1, 1), NONE);
        x.meet(1, 0);
        is("of one that it saw", x.undo(1, 1), NONE);
        is("of node 3's by node 0", x.undo(0, x.insert(3, 0, 'c')), NONE);
        reads(x, 0, "ab");
        reads(x, 3, "c");
        is("by its own node", x.undo(3, 3), 4);
    }

    private static void undoOfAnUndo() {
        TextMarks x = written("ab");
        is("of an insert, sort 0", x.undo(0, 1), 3);
        is("of an undo, sort 5", x.undo(0, 3), NONE);
        is("of a block, sort 4", x.undo(0, x.block(0, 0, 1)), 5);
        is("of an undo, sort 5", x.undo(0, 5), NONE);
        reads(x, 0, "b");
    }

    private static void undoTwice() {
        TextMarks x = written("a");
        x.delete(0, 0);
        is("of a delete", x.undo(0, 2), 3);
        is("once more", x.undo(0, 2), NONE);
        is("of the insert", x.undo(0, 1), 4);
        is("once more", x.undo(0, 1), NONE);
        is("rows", x.total(0, 5), 4);
    }

    private static void undoWhenFull() {
        TextMarks x = writtenRows(ROWS - 1);
        is("the 250th row", x.undo(0, 249), ROWS);
        is("one more", x.undo(0, 1), NONE);
        is("what it would have undone is there", x.id(0, 0), 1);
        is("signs", x.total(0, 0), 248);
        is("time", x.total(0, 6), ROWS);
    }

    private static void undoRefused() {
        TextMarks x = written("ab");
        x.undo(0, 2);
        x.insert(1, 0, 'c');
        unchanged(x, () -> {
            is("no node", x.undo(4, 1), NONE);
            is("no row", x.undo(0, 0), NONE);
            is("no row", x.undo(0, 5), NONE);
            is("of another", x.undo(0, 4), NONE);
            is("of an undo", x.undo(0, 3), NONE);
            is("undone before", x.undo(0, 2), NONE);
        });
        is("the next row's time", x.row(x.undo(0, 1), 2), 4);
        reads(x, 1, "c");
    }

    private static void seeNoNode() {
        TextMarks x = written("a");
        for (int node : noNodes()) {
            is("see by node " + node, x.see(node, 1), false);
            is("of no row either", x.see(node, 0), false);
        }
        is("by node 3", x.see(3, 1), true);
    }

    private static void seeNoRow() {
        TextMarks x = new TextMarks();
        x.block(0, 0, 1);
        x.block(0, 0, 2);
        for (int row : outside(1, 2)) {
            is("see row " + row, x.see(1, row), false);
        }
        is("see row 250", x.see(1, 250), false);
        is("see row 251", x.see(1, 251), false);
        is("rows", x.total(1, 5), 0);
        is("see row 2, the last one", x.see(1, 2), true);
        is("see row 1, the first one", x.see(1, 1), true);
    }

    private static void seeTwice() {
        TextMarks x = written("ab");
        is("what it made", x.see(0, 1), false);
        is("what it did not know", x.see(1, 1), true);
        is("what it saw", x.see(1, 1), false);
        x.meet(2, 0);
        is("what it saw by a meeting", x.see(2, 2), false);
        is("rows of node 0", x.total(0, 5), 2);
        is("rows of node 1", x.total(1, 5), 1);
        is("rows of node 2", x.total(2, 5), 2);
    }

    private static void seeWithoutTheFirst() {
        TextMarks x = written("a\n");
        x.delete(0, 0);
        x.style(0, 0, 1, 0, 1);
        x.style(0, 0, 1, 2, 1);
        x.comment(0, 0, 1);
        x.block(0, 1, 1);
        x.undo(0, 7);
        for (int row = 2; row <= 8; row++) {
            is("see row " + row + " without what it names", x.see(1, row), false);
        }
        for (int row = 1; row <= 8; row++) {
            is("see row " + row + " with it", x.see(1, row), true);
        }
    }

    private static void seeWithoutTheSecond() {
        TextMarks x = written("abc");
        is("style up to \"c\"", x.style(0, 0, 2, 1, 1), 4);
        is("style to \"b\", that too", x.style(0, 0, 2, 2, 1), 5);
        is("comment to \"c\"", x.comment(0, 0, 3), 6);
        x.see(1, 1);
        for (int row = 4; row <= 6; row++) {
            is("see row " + row + " without its second", x.see(1, row), false);
        }
        x.see(1, 2);
        is("up to \"c\"", x.see(1, 4), false);
        is("to \"b\"", x.see(1, 5), true);
        is("to \"c\"", x.see(1, 6), false);
        x.see(1, 3);
        is("up to \"c\"", x.see(1, 4), true);
        is("to \"c\"", x.see(1, 6), true);
    }

    private static void seeRefused() {
        TextMarks x = written("ab");
        unchanged(x, () -> {
            is("no node", x.see(4, 1), false);
            is("no row", x.see(1, 0), false);
            is("no row", x.see(1, 3), false);
            is("known", x.see(0, 1), false);
            is("without its need", x.see(1, 2), false);
        });
        is("what was refused for its need can be seen behind it", x.see(1, 1) && x.see(1, 2), true);
    }

    private static void seeWhenFull() {
        TextMarks x = new TextMarks();
        for (int i = 0; i < ROWS; i++) {
            x.insert(0, 0, 'a');
        }
        is("the 250th row", x.see(1, 250), true);
        is("row 251", x.see(1, 251), false);
        is("its time", x.total(1, 6), ROWS);
        for (int row = 1; row < ROWS; row++) {
            is("see row " + row, x.see(1, row), true);
        }
        is("alike", x.alike(0, 1), true);
    }

    private static void meetOfNoneSomeAll() {
        TextMarks x = written("abc");
        is("with one that knows none", x.meet(0, 1), 0);
        is("both know none", x.meet(1, 2), 0);
        x.see(1, 1);
        is("all but one are new", x.meet(1, 0), 2);
        is("none are new", x.meet(1, 0), 0);
        is("all are new", x.meet(2, 1), 3);
        is("with one that knows no more", x.meet(0, 2), 0);
        is("the other one did not see", x.total(3, 5), 0);
    }

    private static void meetWhenFull() {
        TextMarks x = writtenRows(ROWS - 1);
        is("the 250th row", x.insert(3, 0, 'b'), ROWS);
        is("249 are new", x.meet(3, 0), ROWS - 1);
        is("one is new", x.meet(0, 3), 1);
        is("all are new", x.meet(1, 3), ROWS);
        is("none are new", x.meet(1, 0), 0);
        is("rows", x.total(1, 5), ROWS);
        is("alike", x.alike(1, 3), true);
    }

    private static void meetNoNode() {
        TextMarks x = written("a");
        for (int node : noNodes()) {
            is("meet by node " + node, x.meet(node, 0), NONE);
        }
    }

    private static void meetNoOther() {
        TextMarks x = written("a");
        for (int other : noNodes()) {
            is("meet with node " + other, x.meet(0, other), NONE);
            is("both are none", x.meet(other, other), NONE);
        }
    }

    private static void meetItself() {
        TextMarks x = written("a");
        for (int node = 0; node < 4; node++) {
            is("meet of node " + node + " with itself", x.meet(node, node), NONE);
        }
    }

    private static void meetRefused() {
        TextMarks x = written("ab");
        unchanged(x, () -> {
            is("no node", x.meet(4, 0), NONE);
            is("no other", x.meet(1, 4), NONE);
            is("the same", x.meet(1, 1), NONE);
        });
        is("it goes on", x.meet(1, 0), 2);
    }
}
