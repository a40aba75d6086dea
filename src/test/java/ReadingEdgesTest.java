/** The boundary cases that the document names in its promises 10 to 19, which only tell what there is. */
public final class ReadingEdgesTest extends Edges {
    public static void main(String[] args) {
        begin("ReadingEdgesTest");
        promises10And11();
        promises12And13();
        promise14();
        promise15();
        promise16();
        promise17();
        promise18();
        promise19();
        edge("What it is", "all a function of the rows that one has", "which no call of promises 10 to 19 changes",
                ReadingEdgesTest::readingChangesNothing);
        end();
    }

    private static void promises10And11() {
        edge("Promise 10", "The SIGN at a place", "the first and the last", ReadingEdgesTest::signFirstAndLast);
        edge("Promise 10", "NONE if there is none such", "no such NODE", ReadingEdgesTest::signNoNode);
        edge("Promise 10", "NONE if there is none such", "no such place", ReadingEdgesTest::signNoPlace);
        edge("Promise 10", "NONE if there is none such", "an empty text", ReadingEdgesTest::signOfNothing);
        edge("Promise 11", "Its INSERT's number", "the first and the last", ReadingEdgesTest::idFirstAndLast);
        edge("Promise 11", "NONE likewise", "no such NODE", ReadingEdgesTest::idNoNode);
        edge("Promise 11", "NONE likewise", "no such place", ReadingEdgesTest::idNoPlace);
        edge("Promise 11", "NONE likewise", "an empty text", ReadingEdgesTest::idOfNothing);
    }

    private static void promises12And13() {
        edge("Promise 12", "UNIT i", "the first and the last", ReadingEdgesTest::unitFirstAndLast);
        edge("Promise 12", "NONE if there is none such", "no such NODE", ReadingEdgesTest::unitNoNode);
        edge("Promise 12", "NONE if there is none such", "no such UNIT", ReadingEdgesTest::unitNoUnit);
        edge("Promise 12", "NONE if there is none such", "an empty text", ReadingEdgesTest::unitOfNothing);
        edge("Promise 13", "NONE if there is none such", "no such NODE", ReadingEdgesTest::styledNoNode);
        edge("Promise 13", "NONE if there is none such", "no such place", ReadingEdgesTest::styledNoPlace);
        edge("Promise 13", "NONE if there is none such", "no such KEY", ReadingEdgesTest::styledNoKey);
        edge("Promise 13", "NONE if there is none such", "an empty text", ReadingEdgesTest::styledOfNothing);
    }

    private static void promise14() {
        edge("Promise 14", "the k-th RUN", "the first and the last", ReadingEdgesTest::runFirstAndLast);
        edge("Promise 14", "NONE if there is none such", "no such NODE", ReadingEdgesTest::runNoNode);
        edge("Promise 14", "NONE if there is none such", "no such RUN", ReadingEdgesTest::runNoRun);
        edge("Promise 14", "NONE if there is none such", "an empty text", ReadingEdgesTest::runOfNothing);
        edge("Promise 14", "or for another what", ReadingEdgesTest::runNoWhat);
        edge("Promise 14", "Of the k-th RUN", "as many as there are signs", ReadingEdgesTest::runForEachSign);
    }

    private static void promise15() {
        edge("Promise 15", "NONE if there is none such", "no such NODE", ReadingEdgesTest::liesNoNode);
        edge("Promise 15", "NONE if there is none such", "no such ROW", ReadingEdgesTest::liesNoRow);
        edge("Promise 15", "NONE if there is none such", "a ROW of another sort", ReadingEdgesTest::liesNoComment);
        edge("Promise 15", "that is GOOD there", "it does not KNOW it", ReadingEdgesTest::liesNotKnown);
        edge("Promise 15", "that is GOOD there", "it is UNDONE there", ReadingEdgesTest::liesUndone);
        edge("Promise 15", "or no such side", ReadingEdgesTest::liesNoSide);
    }

    private static void promise16() {
        edge("Promise 16", "the place of its first SIGN (or where it would be)", ReadingEdgesTest::paragraphWithoutSigns);
        edge("Promise 16", "NONE if there is none such", "no such NODE", ReadingEdgesTest::paragraphNoNode);
        edge("Promise 16", "NONE if there is none such", "no such PARAGRAPH", ReadingEdgesTest::paragraphNoParagraph);
        edge("Promise 16", "or for another what", ReadingEdgesTest::paragraphNoWhat);
        edge("Promise 16", "Of the k-th PARAGRAPH", "the only one of an empty text", ReadingEdgesTest::paragraphOfNothing);
    }

    private static void promise17() {
        edge("Promise 17", "the SIGN, KEY or kind (else 0)", ReadingEdgesTest::rowDetailElse0);
        edge("Promise 17", "the value of a STYLE (else 0)", ReadingEdgesTest::rowValueElse0);
        edge("Promise 17", "that it names first (0: the beginning)", ReadingEdgesTest::rowFirstOf0);
        edge("Promise 17", "the second one (0 without)", ReadingEdgesTest::rowSecondElse0);
        edge("Promise 17", "NONE if there is none such", ReadingEdgesTest::rowNoRow);
        edge("Promise 17", "or for another what", ReadingEdgesTest::rowNoWhat);
    }

    private static void promise18() {
        edge("Promise 18", "the same text", "empty ones", ReadingEdgesTest::alikeOfNothing);
        edge("Promise 18", "the same text", "one SIGN more", ReadingEdgesTest::alikeButForTheLast);
        edge("Promise 18", "with the same values of all KEYS", ReadingEdgesTest::alikeButForAKey);
        edge("Promise 18", "COMMENTS that are GOOD", ReadingEdgesTest::alikeButForAComment);
        edge("Promise 18", "(where they lie, too)", ReadingEdgesTest::alikeButForWhereItLies);
        edge("Promise 18", "PARAGRAPHS' kinds", ReadingEdgesTest::alikeButForAKind);
        edge("Promise 18", "False if there are no such NODES", ReadingEdgesTest::alikeNoNodes);
    }

    private static void promise19() {
        edge("Promise 19", "Of a NODE", "one that knows no rows, or none that is good", ReadingEdgesTest::totalOfNothing);
        edge("Promise 19", "Of a NODE", "one that knows 250 rows", ReadingEdgesTest::totalWhenFull);
        edge("Promise 19", "NONE if there is no such NODE", ReadingEdgesTest::totalNoNode);
        edge("Promise 19", "or for another what", ReadingEdgesTest::totalNoWhat);
    }

    private static void signFirstAndLast() {
        TextMarks x = written("abcd");
        x.delete(0, 0);
        x.undo(0, 4);
        is("sign(0, 0)", x.sign(0, 0), 'b');
        is("sign(0, 1)", x.sign(0, 1), 'c');
        is("sign(0, 2)", x.sign(0, 2), NONE);
    }

    private static void signNoNode() {
        TextMarks x = written("ab");
        for (int node : noNodes()) {
            is("sign of node " + node, x.sign(node, 0), NONE);
        }
    }

    private static void signNoPlace() {
        TextMarks x = written("abc");
        x.delete(0, 2);
        for (int i : outside(0, 1)) {
            is("sign(0, " + i + ")", x.sign(0, i), NONE);
        }
        TextMarks full = writtenRows(ROWS);
        is("sign(0, 249)", full.sign(0, 249), 'a');
        is("sign(0, 250)", full.sign(0, 250), NONE);
        is("sign(0, 251)", full.sign(0, 251), NONE);
    }

    private static void signOfNothing() {
        TextMarks x = written("a");
        is("of a node that knows none", x.sign(1, 0), NONE);
        x.delete(0, 0);
        is("of an emptied text", x.sign(0, 0), NONE);
    }

    private static void idFirstAndLast() {
        TextMarks x = written("bc");
        x.insert(0, 0, 'a');
        is("id(0, 0)", x.id(0, 0), 3);
        is("id(0, 2)", x.id(0, 2), 2);
        x.delete(0, 0);
        is("id(0, 0)", x.id(0, 0), 1);
        is("id(0, 1)", x.id(0, 1), 2);
        is("id(0, 2)", x.id(0, 2), NONE);
    }

    private static void idNoNode() {
        TextMarks x = written("ab");
        for (int node : noNodes()) {
            is("id of node " + node, x.id(node, 0), NONE);
        }
    }

    private static void idNoPlace() {
        TextMarks x = written("abc");
        x.delete(0, 2);
        for (int i : outside(0, 1)) {
            is("id(0, " + i + ")", x.id(0, i), NONE);
        }
        TextMarks full = writtenRows(ROWS);
        is("id(0, 249)", full.id(0, 249), 250);
        is("id(0, 250)", full.id(0, 250), NONE);
        is("id(0, 251)", full.id(0, 251), NONE);
    }

    private static void idOfNothing() {
        TextMarks x = written("a");
        is("of a node that knows none", x.id(1, 0), NONE);
        x.delete(0, 0);
        is("of an emptied text", x.id(0, 0), NONE);
    }

    private static void unitFirstAndLast() {
        TextMarks x = new TextMarks();
        x.insert(0, 0, 65536);
        x.insert(0, 1, 'a');
        x.insert(0, 2, 1114111);
        int[] units = {55296, 56320, 'a', 56319, 57343, NONE};
        for (int i = 0; i < units.length; i++) {
            is("unit(0, " + i + ")", x.unit(0, i), units[i]);
        }
    }

    private static void unitNoNode() {
        TextMarks x = written("ab");
        for (int node : noNodes()) {
            is("unit of node " + node, x.unit(node, 0), NONE);
        }
    }

    private static void unitNoUnit() {
        TextMarks x = written("a");
        x.insert(0, 1, 65536);
        for (int i : outside(0, 2)) {
            is("unit(0, " + i + ")", x.unit(0, i), NONE);
        }
        TextMarks full = new TextMarks();
        for (int i = 0; i < ROWS; i++) {
            full.insert(0, i, 1114111);
        }
        is("unit(0, 498)", full.unit(0, 498), 56319);
        is("unit(0, 499)", full.unit(0, 499), 57343);
        is("unit(0, 500)", full.unit(0, 500), NONE);
        is("units", full.total(0, 1), 500);
    }

    private static void unitOfNothing() {
        TextMarks x = new TextMarks();
        x.insert(0, 0, 65536);
        is("of a node that knows none", x.unit(1, 0), NONE);
        x.delete(0, 0);
        is("of an emptied text", x.unit(0, 0), NONE);
        is("its second unit", x.unit(0, 1), NONE);
    }

    private static void styledNoNode() {
        TextMarks x = written("ab");
        for (int node : noNodes()) {
            for (int key = 0; key < 4; key++) {
                is("styled of node " + node, x.styled(node, 0, key), NONE);
            }
        }
    }

    private static void styledNoPlace() {
        TextMarks x = written("abc");
        x.style(0, 0, 3, 0, 9);
        x.delete(0, 2);
        for (int i : outside(0, 1)) {
            is("styled(0, " + i + ", 0)", x.styled(0, i, 0), NONE);
            is("styled(0, " + i + ", 3)", x.styled(0, i, 3), NONE);
        }
        is("the last place", x.styled(0, 1, 0), 9);
        is("the first place", x.styled(0, 0, 0), 9);
    }

    private static void styledNoKey() {
        TextMarks x = written("a");
        for (int key = 0; key < 4; key++) {
            x.style(0, 0, 1, key, 9);
        }
        for (int key : outside(0, 3)) {
            is("styled(0, 0, " + key + ")", x.styled(0, 0, key), NONE);
        }
        is("key 0", x.styled(0, 0, 0), 9);
        is("key 3", x.styled(0, 0, 3), 9);
    }

    private static void styledOfNothing() {
        TextMarks x = written("a");
        x.style(0, 0, 1, 0, 9);
        is("of a node that knows none", x.styled(1, 0, 0), NONE);
        x.delete(0, 0);
        is("of an emptied text", x.styled(0, 0, 0), NONE);
    }

    private static void runFirstAndLast() {
        TextMarks x = written("abcde");
        x.style(0, 0, 2, 2, 7);
        x.style(0, 4, 5, 3, 8);
        int[][] want = {{0, 2, 0, 0, 7, 0}, {2, 2, 0, 0, 0, 0}, {4, 1, 0, 0, 0, 8}, {NONE, NONE, NONE, NONE, NONE, NONE}};
        for (int k = 0; k < want.length; k++) {
            for (int what = 0; what < 6; what++) {
                is("run(0, " + k + ", " + what + ")", x.run(0, k, what), want[k][what]);
            }
        }
    }

    private static void runNoNode() {
        TextMarks x = written("ab");
        for (int node : noNodes()) {
            for (int what = 0; what < 6; what++) {
                is("run of node " + node, x.run(node, 0, what), NONE);
            }
        }
    }

    private static void runNoRun() {
        TextMarks x = written("abc");
        x.style(0, 1, 2, 2, 5);
        x.delete(0, 2);
        for (int k : outside(0, 1)) {
            for (int what = 0; what < 6; what++) {
                is("run(0, " + k + ", " + what + ")", x.run(0, k, what), NONE);
            }
        }
        is("the last run's place", x.run(0, 1, 0), 1);
        is("its signs", x.run(0, 1, 1), 1);
    }

    private static void runOfNothing() {
        TextMarks x = written("a");
        for (int what = 0; what < 6; what++) {
            is("of a node that knows none", x.run(1, 0, what), NONE);
        }
        x.delete(0, 0);
        for (int what = 0; what < 6; what++) {
            is("of an emptied text", x.run(0, 0, what), NONE);
        }
    }

    private static void runNoWhat() {
        TextMarks x = written("ab");
        for (int key = 0; key < 4; key++) {
            x.style(0, 0, 1, key, 9);
        }
        for (int what : outside(0, 5)) {
            is("run(0, 0, " + what + ")", x.run(0, 0, what), NONE);
            is("run(0, 1, " + what + ")", x.run(0, 1, what), NONE);
        }
        is("what 5, of key 3", x.run(0, 0, 5), 9);
    }

    private static void runForEachSign() {
        TextMarks x = new TextMarks();
        for (int i = 0; i < 125; i++) {
            x.insert(0, i, 'a');
        }
        for (int i = 0; i < 125; i++) {
            x.style(0, i, i + 1, 3, i % 10);
        }
        is("runs", x.total(0, 2), 125);
        for (int k = 0; k < 125; k++) {
            is("place of run " + k, x.run(0, k, 0), k);
        }
        is("signs of the last one", x.run(0, 124, 1), 1);
        is("one more", x.run(0, 125, 0), NONE);
    }

    private static void liesNoNode() {
        TextMarks x = written("ab");
        is("comment", x.comment(0, 0, 1), 3);
        for (int node : noNodes()) {
            lie(x, node, 3, NONE, NONE);
        }
        lie(x, 0, 3, 0, 1);
    }

    private static void liesNoRow() {
        TextMarks x = written("a");
        is("comment", x.comment(0, 0, 1), 2);
        is("comment", x.comment(0, 0, 1), 3);
        for (int row : outside(1, 3)) {
            lie(x, 0, row, NONE, NONE);
        }
        lie(x, 0, 250, NONE, NONE);
        lie(x, 0, 251, NONE, NONE);
        lie(x, 0, 3, 0, 1);
    }

    private static void liesNoComment() {
        TextMarks x = written("ab");
        x.delete(0, 0);
        x.style(0, 0, 1, 2, 1);
        x.comment(0, 0, 1);
        x.block(0, 0, 1);
        x.undo(0, 6);
        for (int row : new int[] {1, 3, 4, 6, 7}) {
            lie(x, 0, row, NONE, NONE);
        }
        lie(x, 0, 5, 0, 1);
    }

    private static void liesNotKnown() {
        TextMarks x = written("ab");
        x.meet(1, 0);
        is("comment", x.comment(0, 1, 2), 3);
        lie(x, 0, 3, 1, 2);
        lie(x, 1, 3, NONE, NONE);
        lie(x, 2, 3, NONE, NONE);
        x.see(1, 3);
        lie(x, 1, 3, 1, 2);
    }

    private static void liesUndone() {
        TextMarks x = written("ab");
        is("comment", x.comment(0, 1, 2), 3);
        x.meet(1, 0);
        is("undo", x.undo(0, 3), 4);
        lie(x, 0, 3, NONE, NONE);
        lie(x, 1, 3, 1, 2);
        x.see(1, 4);
        lie(x, 1, 3, NONE, NONE);
    }

    private static void liesNoSide() {
        TextMarks x = written("ab");
        is("comment", x.comment(0, 0, 1), 3);
        for (int side : outside(0, 1)) {
            is("side " + side, x.lies(0, 3, side), NONE);
        }
    }

    private static void paragraphWithoutSigns() {
        TextMarks x = written("a\n");
        is("where the last one would begin", x.paragraph(0, 1, 0), 2);
        is("its signs", x.paragraph(0, 1, 1), 0);
        x.insert(0, 2, 10);
        is("one between two signs 10", x.paragraph(0, 1, 0), 2);
        is("its signs", x.paragraph(0, 1, 1), 0);
        is("the last one", x.paragraph(0, 2, 0), 3);
        x.delete(0, 0);
        is("the first one", x.paragraph(0, 0, 0), 0);
        is("its signs", x.paragraph(0, 0, 1), 0);
    }

    private static void paragraphNoNode() {
        TextMarks x = written("ab");
        for (int node : noNodes()) {
            for (int what = 0; what < 3; what++) {
                is("paragraph of node " + node, x.paragraph(node, 0, what), NONE);
            }
        }
    }

    private static void paragraphNoParagraph() {
        TextMarks x = written("a\nb\n");
        x.delete(0, 3);
        for (int k : outside(0, 1)) {
            for (int what = 0; what < 3; what++) {
                is("paragraph(0, " + k + ", " + what + ")", x.paragraph(0, k, what), NONE);
            }
        }
        is("the last one", x.paragraph(0, 1, 0), 2);
    }

    private static void paragraphNoWhat() {
        TextMarks x = written("a\nb");
        for (int what : outside(0, 2)) {
            is("paragraph(0, 0, " + what + ")", x.paragraph(0, 0, what), NONE);
            is("paragraph(0, 1, " + what + ")", x.paragraph(0, 1, what), NONE);
        }
    }

    private static void paragraphOfNothing() {
        TextMarks x = written("a\n");
        x.delete(0, 0);
        x.delete(0, 0);
        for (int node = 0; node < 2; node++) {
            for (int what = 0; what < 3; what++) {
                is("paragraph(" + node + ", 0, " + what + ")", x.paragraph(node, 0, what), 0);
                is("paragraph(" + node + ", 1, " + what + ")", x.paragraph(node, 1, what), NONE);
            }
        }
    }

    /** Rows 1 .. 9, of each sort at least one: the second sign is a 10. */
    private static TextMarks ofAllSorts() {
        TextMarks x = written("a\n");
        x.delete(0, 0);
        x.style(0, 0, 1, 1, 9);
        x.style(0, 0, 1, 3, 8);
        x.comment(0, 0, 1);
        x.block(0, 0, 7);
        x.block(0, 1, 6);
        x.undo(0, 3);
        return x;
    }

    private static void cellsAre(int what, int... want) {
        TextMarks x = ofAllSorts();
        for (int row = 1; row <= want.length; row++) {
            is("row(" + row + ", " + what + ")", x.row(row, what), want[row - 1]);
        }
    }

    private static void rowDetailElse0() {
        cellsAre(3, 'a', 10, 0, 1, 3, 0, 7, 6, 0);
    }

    private static void rowValueElse0() {
        cellsAre(4, 0, 0, 0, 9, 8, 0, 0, 0, 0);
    }

    private static void rowFirstOf0() {
        cellsAre(5, 0, 1, 1, 2, 2, 2, 0, 2, 3);
    }

    private static void rowSecondElse0() {
        cellsAre(6, 0, 0, 0, 0, 2, 2, 0, 0, 0);
    }

    private static void rowNoRow() {
        TextMarks x = ofAllSorts();
        for (int row : outside(1, 9)) {
            for (int what = 0; what < 7; what++) {
                is("row(" + row + ", " + what + ")", x.row(row, what), NONE);
            }
        }
        is("row(250, 0)", x.row(250, 0), NONE);
        is("row(251, 0)", x.row(251, 0), NONE);
        is("row(1, 0), the first one", x.row(1, 0), 0);
        is("row(9, 0), the last one", x.row(9, 0), 5);
    }

    private static void rowNoWhat() {
        TextMarks x = ofAllSorts();
        for (int row = 1; row <= 9; row++) {
            for (int what : outside(0, 6)) {
                is("row(" + row + ", " + what + ")", x.row(row, what), NONE);
            }
        }
    }

    private static void alikeOfNothing() {
        TextMarks x = new TextMarks();
        is("both know none", x.alike(0, 3), true);
        is("a node and itself", x.alike(2, 2), true);
        x.insert(0, 0, 'a');
        is("one sign and none", x.alike(0, 1), false);
        is("none and one sign", x.alike(1, 0), false);
        x.delete(0, 0);
        is("emptied", x.alike(0, 1), true);
        x.block(0, 0, 1);
        is("but for the only paragraph's kind", x.alike(0, 1), false);
    }

    private static void alikeButForTheLast() {
        TextMarks x = written("ab");
        x.meet(1, 0);
        is("the same", x.alike(0, 1), true);
        is("one more at the end", x.insert(1, 2, 'c'), 3);
        is("alike(0, 1)", x.alike(0, 1), false);
        is("alike(1, 0)", x.alike(1, 0), false);
        is("of the same length, another last one", x.insert(0, 2, 'd'), 4);
        is("alike(0, 1)", x.alike(0, 1), false);
        x.delete(0, 2);
        x.insert(0, 2, 'c');
        is("the same signs", x.alike(0, 1), true);
    }

    private static void alikeButForAKey() {
        for (int key = 0; key < 4; key++) {
            TextMarks x = written("ab");
            x.meet(1, 0);
            is("the last sign's value", x.style(0, 1, 2, key, 1), 3);
            is("alike by key " + key, x.alike(0, 1), false);
            x.style(1, 1, 2, key, 2);
            is("another value", x.alike(0, 1), false);
            x.style(1, 1, 2, key, 1);
            is("the same value by another style", x.alike(0, 1), true);
            is("the first sign's value", x.style(1, 0, 1, key, 3), 6);
            is("alike by key " + key, x.alike(0, 1), false);
        }
    }

    private static void alikeButForAComment() {
        TextMarks x = written("ab");
        x.meet(1, 0);
        is("comment", x.comment(0, 0, 2), 3);
        is("known to the first one alone", x.alike(0, 1), false);
        is("known to the second one alone", x.alike(1, 0), false);
        x.see(1, 3);
        is("known to both", x.alike(0, 1), true);
        is("undo", x.undo(0, 3), 4);
        is("undone at the first one alone", x.alike(0, 1), false);
        x.see(1, 4);
        is("undone at both", x.alike(0, 1), true);
        is("undone at one, never known to the other", x.alike(0, 2), false);
        x.see(2, 1);
        x.see(2, 2);
        is("the same text, without it", x.alike(0, 2), true);
    }

    private static void alikeButForWhereItLies() {
        // Both read "aa"; the comment's sign is the first one at node 0, the second one at node 1.
        TextMarks x = written("a");
        is("comment", x.comment(0, 0, 1), 2);
        x.meet(1, 0);
        x.insert(0, 1, 'a');
        x.insert(1, 0, 'a');
        lie(x, 0, 2, 0, 1);
        lie(x, 1, 2, 1, 2);
        is("another FROM and TO", x.alike(0, 1), false);
        toAlone();
        fromAlone();
        sameByOtherRows();
    }

    private static void toAlone() {
        TextMarks x = written("aaa");
        is("comment", x.comment(0, 0, 2), 4);
        x.meet(1, 0);
        x.delete(1, 1);
        x.insert(1, 2, 'a');
        lie(x, 0, 4, 0, 2);
        lie(x, 1, 4, 0, 1);
        is("another TO alone", x.alike(0, 1), false);
    }

    private static void fromAlone() {
        TextMarks x = written("aaa");
        is("comment", x.comment(0, 1, 3), 4);
        x.meet(1, 0);
        x.delete(1, 1);
        x.insert(1, 0, 'a');
        lie(x, 0, 4, 1, 3);
        lie(x, 1, 4, 2, 3);
        is("another FROM alone", x.alike(0, 1), false);
    }

    /** Node 1 takes a sign of the comment out and puts one in between: its FROM and TO are the same then. */
    private static void sameByOtherRows() {
        TextMarks x = written("aa");
        is("comment", x.comment(0, 0, 2), 3);
        x.meet(1, 0);
        x.insert(1, 1, 'a');
        lie(x, 1, 3, 0, 3);
        is("a longer text", x.alike(0, 1), false);
        x.delete(1, 2);
        lie(x, 1, 3, 0, 2);
        is("the same signs and the same FROM and TO", x.alike(0, 1), true);
    }

    private static void alikeButForAKind() {
        TextMarks x = written("\n\na");
        x.meet(1, 0);
        for (int k = 0; k < 3; k++) {
            x.block(0, k, 5);
            is("another kind of paragraph " + k, x.alike(0, 1), false);
            x.block(1, k, 5);
            is("the same kind", x.alike(0, 1), true);
        }
        x.block(1, 2, 0);
        is("kind 0 and kind 5", x.alike(0, 1), false);
        x.delete(0, 1);
        x.delete(1, 1);
        is("the paragraph is gone", x.alike(0, 1), true);
    }

    private static void alikeNoNodes() {
        TextMarks x = new TextMarks();
        for (int node : noNodes()) {
            is("alike(" + node + ", 0)", x.alike(node, 0), false);
            is("alike(0, " + node + ")", x.alike(0, node), false);
            is("alike of it and itself", x.alike(node, node), false);
        }
        is("alike(3, 0)", x.alike(3, 0), true);
    }

    private static void totalsAre(TextMarks x, int node, int... want) {
        for (int what = 0; what < want.length; what++) {
            is("total(" + node + ", " + what + ")", x.total(node, what), want[what]);
        }
    }

    private static void totalOfNothing() {
        TextMarks x = new TextMarks();
        totalsAre(x, 0, 0, 0, 0, 1, 0, 0, 0);
        x.insert(1, 0, 10);
        x.undo(1, 1);
        totalsAre(x, 0, 0, 0, 0, 1, 0, 0, 0);
        totalsAre(x, 1, 0, 0, 0, 1, 1, 2, 2);
        x.block(2, 0, 1);
        totalsAre(x, 2, 0, 0, 0, 1, 0, 1, 1);
    }

    private static void totalWhenFull() {
        TextMarks x = new TextMarks();
        for (int i = 0; i < ROWS; i++) {
            x.insert(0, i, i % 2 == 0 ? 10 : 1114111);
        }
        totalsAre(x, 0, 250, 375, 1, 126, 250, 250, 250);
        x.meet(3, 0);
        totalsAre(x, 3, 250, 375, 1, 126, 250, 250, 250);
    }

    private static void totalNoNode() {
        TextMarks x = written("a");
        for (int node : noNodes()) {
            for (int what = 0; what < 7; what++) {
                is("total(" + node + ", " + what + ")", x.total(node, what), NONE);
            }
        }
    }

    private static void totalNoWhat() {
        TextMarks x = written("a");
        for (int what : outside(0, 6)) {
            for (int node = 0; node < 4; node++) {
                is("total(" + node + ", " + what + ")", x.total(node, what), NONE);
            }
        }
    }

    private static void readingChangesNothing() {
        TextMarks x = written("a\n");
        x.comment(0, 0, 1);
        x.meet(1, 0);
        unchanged(x, () -> {
            for (int i = -1; i <= 4; i++) {
                for (int node : new int[] {-1, 0, 4}) {
                    x.sign(node, i);
                    x.id(node, i);
                    x.unit(node, i);
                    x.alike(node, i);
                    x.row(i, 0);
                }
                x.styled(0, i, 0);
                x.run(0, i, 0);
                x.lies(0, i, 0);
                x.paragraph(0, i, 2);
                is("alike(0, 1)", x.alike(0, 1), true);
            }
        });
        reads(x, 0, "a\n");
        reads(x, 1, "a\n");
    }
}
