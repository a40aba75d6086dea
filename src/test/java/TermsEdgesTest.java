/** The boundary cases that the document names ahead of its promises: 'What it is', 'The public face', 'Terms'. */
public final class TermsEdgesTest extends Edges {
    public static void main(String[] args) {
        begin("TermsEdgesTest");
        edge("What it is", "at most 512 calls after it has been made", TermsEdgesTest::theLastCall);
        edge("What it is", "in whatever order they came, also when some are undone", TermsEdgesTest::anyOrderOfComing);
        edge("What it is", "comments that stay where their text was", TermsEdgesTest::commentsStay);
        edge("The public face", "NONE = -1", TermsEdgesTest::noneIsBelowAllAnswers);
        rowsAndTimes();
        sorts();
        places();
        signsAndUnits();
        styles();
        commentsAndParagraphs();
        end();
    }

    private static void rowsAndTimes() {
        edge("Terms", "NODES 0 .. 3", TermsEdgesTest::nodes);
        edge("Terms", "a number (1, 2, .. as it was made, at most 250)", TermsEdgesTest::rowNumbers);
        edge("Terms", "KNOWS some ROWS (those it made, and those it saw)", TermsEdgesTest::knownRows);
        edge("Terms", "has a TIME, 0 at first", TermsEdgesTest::timeAtFirst);
        edge("Terms", "a ROW that it makes gets 1 more than that, which is its TIME then", TermsEdgesTest::timeOfMade);
        edge("Terms", "its TIME becomes the ROW's, if that is greater", TermsEdgesTest::timeOfSeen);
        edge("Terms", "in ORDER by TIME, then NODE", TermsEdgesTest::orderOfTheSameTime);
    }

    private static void sorts() {
        edge("Terms", "behind an INSERT (0: the beginning)", TermsEdgesTest::behindTheBeginning);
        edge("Terms", "a KEY 0 .. 3", TermsEdgesTest::keys);
        edge("Terms", "a value 0 .. 9", TermsEdgesTest::values);
        edge("Terms", "of KEYS 0 and 1, which GROW, 0: the end", TermsEdgesTest::growingKeys);
        edge("Terms", "a kind 0 .. 9", TermsEdgesTest::kinds);
        edge("Terms", "of an INSERT of the SIGN 10 (0: the beginning)", TermsEdgesTest::blockOfTheBeginning);
        edge("Terms", "UNDO of a ROW of the same NODE (of the sorts 0 to 4)", TermsEdgesTest::sortsToUndo);
        edge("Terms", "A ROW NEEDS those that it names", TermsEdgesTest::needs);
        edge("Terms", "GOOD, if it KNOWS it and no UNDO of it", TermsEdgesTest::goodByWhatIsKnown);
    }

    private static void places() {
        edge("Terms", "all INSERTS that it KNOWS, GOOD or not", TermsEdgesTest::placesGoodOrNot);
        edge("Terms", "first those behind the beginning, the last one in ORDER first", TermsEdgesTest::allBehindTheBeginning);
        edge("Terms", "each followed by those that are behind it, likewise, and so on", TermsEdgesTest::allBehindOneAnother);
        edge("Terms", "the GOOD ones of which it KNOWS no GOOD DELETE", TermsEdgesTest::deletedTwice);
    }

    private static void signsAndUnits() {
        edge("Terms", "SIGNS are 10 and 32 .. 1114111", TermsEdgesTest::signs);
        edge("Terms", "but for 55296 .. 57343", TermsEdgesTest::signsThatAreHalves);
        edge("Terms", "a SIGN above 65535 is two", TermsEdgesTest::twoUnits);
        edge("Terms", "55296 + (SIGN - 65536) / 1024 and 56320 + (SIGN - 65536) % 1024", TermsEdgesTest::unitsWrapAround);
        edge("Terms", "each other one is one", TermsEdgesTest::oneUnit);
    }

    private static void styles() {
        edge("Terms", "from FROM on, it too, to TO, that too", TermsEdgesTest::endsThatDoNotGrow);
        edge("Terms", "of a KEY that GROWS up to TO, that not", TermsEdgesTest::endsThatGrow);
        edge("Terms", "(0: all)", TermsEdgesTest::styledToTheEnd);
        edge("Terms", "If TO is ahead of FROM, none", TermsEdgesTest::toAheadOfFrom);
        edge("Terms", "none, or of a KEY that GROWS TO is FROM", TermsEdgesTest::toIsFrom);
        edge("Terms", "from FROM on .. to TO", "the least that a call can style", TermsEdgesTest::leastCovered);
        edge("Terms", "the last one in ORDER of those that COVER it", TermsEdgesTest::lastStyle);
        edge("Terms", "that COVER it; 0 without", TermsEdgesTest::withoutStyle);
        edge("Terms", "with the same values of all KEYS", TermsEdgesTest::runsByEachKey);
        edge("Terms", "as many SEEN SIGNS as there are one behind the other", TermsEdgesTest::runsOfNoneAndOfAll);
    }

    private static void commentsAndParagraphs() {
        edge("Terms", "lies FROM how many SEEN SIGNS are ahead of its FROM", TermsEdgesTest::commentFrom);
        edge("Terms", "TO how many are ahead of the PLACE behind its TO", TermsEdgesTest::commentTo);
        edge("Terms", "if that is less, this is FROM", TermsEdgesTest::commentToIsLess);
        edge("Terms", "if that is less, this is FROM", "it is the same", TermsEdgesTest::emptiedComment);
        edge("Terms", "the SEEN SIGNS 10 part them (none of them is of one)", TermsEdgesTest::emptyParagraphs);
        edge("Terms", "there is one more than these", TermsEdgesTest::oneParagraphMore);
        edge("Terms", "the GOOD BLOCK for 0 that is the last one in ORDER", TermsEdgesTest::lastBlock);
        edge("Terms", "(0 without)", TermsEdgesTest::withoutBlock);
        edge("Terms", "each other one's that for the INSERT of the SIGN 10 ahead of it", TermsEdgesTest::kindOfTheOthers);
    }

    private static void theLastCall() {
        TextMarks x = new TextMarks();
        for (int i = 0; i < ROWS; i++) {
            is("call " + (i + 1), x.insert(0, i, 'a'), i + 1);
        }
        for (int i = 0; i < ROWS; i++) {
            is("call " + (i + 251), x.id(0, i), i + 1);
        }
        for (int i = 501; i < 512; i++) {
            is("call " + i, x.insert(0, 0, 'a'), NONE);
        }
        is("call 512", x.sign(0, 249), 'a');
    }

    private static void anyOrderOfComing() {
        TextMarks x = written("ab");
        x.style(0, 0, 2, 0, 5);
        x.comment(0, 1, 2);
        x.block(0, 0, 6);
        x.delete(0, 0);
        x.undo(0, 6);
        x.undo(0, 3);
        write(x, 1, 0, "cd");
        x.meet(2, 0);
        x.meet(2, 1);
        for (int row : new int[] {9, 10, 5, 1, 6, 7, 3, 8, 2, 4}) {
            is("see(3, " + row + ")", x.see(3, row), true);
        }
        reads(x, 2, "cdab");
        reads(x, 3, "cdab");
        is("alike(2, 3)", x.alike(2, 3), true);
        is("time", x.total(3, 6), x.total(2, 6));
    }

    private static void commentsStay() {
        TextMarks x = written("abcd");
        is("comment", x.comment(0, 1, 3), 5);
        x.delete(0, 2);
        x.delete(0, 1);
        reads(x, 0, "ad");
        lie(x, 0, 5, 1, 1);
        is("a sign where it was, behind \"a\"", x.insert(0, 1, 'x'), 8);
        lie(x, 0, 5, 2, 2);
        x.delete(0, 1);
        x.delete(0, 0);
        x.delete(0, 0);
        reads(x, 0, "");
        lie(x, 0, 5, 0, 0);
        is("undo of the delete of \"b\"", x.undo(0, 7), 12);
        lie(x, 0, 5, 0, 1);
    }

    private static void noneIsBelowAllAnswers() {
        is("NONE", TextMarks.NONE, -1);
        is("an answer without a place", new TextMarks().sign(0, 0), -1);
    }

    private static void nodes() {
        TextMarks x = new TextMarks();
        for (int node = 0; node <= 3; node++) {
            is("insert by node " + node, x.insert(node, 0, 'a'), node + 1);
            is("rows of node " + node, x.total(node, 5), 1);
        }
        for (int node : noNodes()) {
            is("rows of node " + node, x.total(node, 5), NONE);
            is("insert by node " + node, x.insert(node, 0, 'a'), NONE);
        }
    }

    private static void rowNumbers() {
        TextMarks x = new TextMarks();
        is("the first row", x.insert(0, 0, 'a'), 1);
        is("a refused one", x.insert(0, 2, 'a'), NONE);
        is("another one", x.undo(1, 1), NONE);
        is("the second row, by another node", x.insert(3, 0, 'b'), 2);
        is("the third one", x.undo(0, 1), 3);
        for (int number = 4; number <= ROWS; number++) {
            is("the next row", x.insert(1, 0, 'c'), number);
        }
        is("one more", x.insert(1, 0, 'd'), NONE);
        is("row 0", x.row(0, 0), NONE);
        is("row 1", x.row(1, 3), 'a');
        is("row 250", x.row(250, 3), 'c');
        is("row 251", x.row(251, 0), NONE);
    }

    private static void knownRows() {
        TextMarks x = written("ab");
        is("those it made", x.total(0, 5), 2);
        is("another one does not", x.total(1, 5), 0);
        is("refused, so not seen", x.see(1, 2), false);
        is("still none", x.total(1, 5), 0);
        is("seen", x.see(1, 1), true);
        is("the one it saw", x.total(1, 5), 1);
        is("made", x.insert(1, 1, 'c'), 3);
        is("the one it made, too", x.total(1, 5), 2);
        reads(x, 1, "ac");
        reads(x, 0, "ab");
        is("met", x.meet(0, 1), 1);
        is("those it saw by a meeting, too", x.total(0, 5), 3);
        is("the one that was met knows no more", x.total(1, 5), 2);
    }

    private static void timeAtFirst() {
        TextMarks x = new TextMarks();
        for (int node = 0; node < 4; node++) {
            is("time of node " + node, x.total(node, 6), 0);
        }
        write(x, 0, 0, "abc");
        is("time of a node that saw none of these", x.total(1, 6), 0);
        is("its first row's time", x.row(x.insert(1, 0, 'd'), 2), 1);
    }

    private static void timeOfMade() {
        TextMarks x = written("a\n");
        x.delete(0, 0);
        x.style(0, 0, 1, 0, 1);
        x.comment(0, 0, 1);
        x.block(0, 0, 1);
        is("undo", x.undo(0, 3), 7);
        for (int row = 1; row <= 7; row++) {
            is("time of row " + row, x.row(row, 2), row);
        }
        is("time of its node", x.total(0, 6), 7);
        is("a refused call", x.undo(0, 3), NONE);
        is("takes no time", x.total(0, 6), 7);
        x.meet(1, 0);
        is("time of a row made behind row 7", x.row(x.insert(1, 0, 'b'), 2), 8);
        is("time of its node", x.total(1, 6), 8);
        is("node 0 did not see that one", x.row(x.insert(0, 0, 'c'), 2), 8);
    }

    private static void timeOfSeen() {
        TextMarks x = written("abc");
        write(x, 1, 0, "xy");
        is("time at first", x.total(1, 6), 2);
        is("see one of time 1", x.see(1, 1), true);
        is("its time is less", x.total(1, 6), 2);
        is("see one of time 2", x.see(1, 2), true);
        is("its time is the same", x.total(1, 6), 2);
        is("see one of time 3", x.see(1, 3), true);
        is("its time is greater", x.total(1, 6), 3);
        is("meet with the same time", x.meet(0, 1), 2);
        is("all it did not know have less", x.total(0, 6), 3);
        is("meet of time 0", x.meet(2, 1), 5);
        is("the greatest of all", x.total(2, 6), 3);
        is("refused", x.see(3, 3), false);
        is("changes no time", x.total(3, 6), 0);
    }

    private static void orderOfTheSameTime() {
        TextMarks x = new TextMarks();
        for (int node : new int[] {2, 0, 3, 1}) {
            x.insert(node, 0, '0' + node);
        }
        for (int node = 1; node < 4; node++) {
            x.meet(0, node);
        }
        reads(x, 0, "3210");
        TextMarks y = new TextMarks();
        y.insert(0, 0, 'a');
        y.insert(0, 0, 'b');
        y.insert(3, 0, 'c');
        y.meet(0, 3);
        // "b" of node 0 has the time 2; "a" and "c" have 1.
        reads(y, 0, "bca");
    }

    private static void behindTheBeginning() {
        TextMarks x = new TextMarks();
        is("of an empty text", x.row(x.insert(0, 0, 'a'), 5), 0);
        is("of a written one", x.row(x.insert(0, 0, 'b'), 5), 0);
        is("behind the first one", x.row(x.insert(0, 1, 'c'), 5), 2);
        x.delete(0, 0);
        x.delete(0, 0);
        x.delete(0, 0);
        is("of an emptied one", x.row(x.insert(0, 0, 'd'), 5), 0);
    }

    private static void keys() {
        TextMarks x = written("a");
        for (int key = 0; key <= 3; key++) {
            is("style of key " + key, x.style(0, 0, 1, key, key + 1), key + 2);
        }
        for (int key = 0; key <= 3; key++) {
            is("styled of key " + key, x.styled(0, 0, key), key + 1);
            is("run of key " + key, x.run(0, 0, 2 + key), key + 1);
        }
        for (int key : outside(0, 3)) {
            is("style of key " + key, x.style(0, 0, 1, key, 1), NONE);
            is("styled of key " + key, x.styled(0, 0, key), NONE);
        }
    }

    private static void values() {
        TextMarks x = written("a");
        for (int key = 0; key <= 3; key++) {
            for (int value = 0; value <= 9; value++) {
                int row = x.style(0, 0, 1, key, value);
                is("value of the row", x.row(row, 4), value);
                is("value of the sign", x.styled(0, 0, key), value);
            }
            for (int value : outside(0, 9)) {
                is("style of value " + value, x.style(0, 0, 1, key, value), NONE);
            }
        }
    }

    private static void growingKeys() {
        TextMarks x = written("abc");
        int[] atTheEnd = {0, 0, 3, 3};
        int[] aheadOfTheLast = {3, 3, 2, 2};
        for (int key = 0; key <= 3; key++) {
            is("TO of key " + key + " at the end", x.row(x.style(0, 1, 3, key, 1), 6), atTheEnd[key]);
            is("TO of key " + key + " ahead of it", x.row(x.style(0, 1, 2, key, 1), 6), aheadOfTheLast[key]);
        }
    }

    private static void kinds() {
        TextMarks x = new TextMarks();
        for (int kind = 0; kind <= 9; kind++) {
            is("kind of the row", x.row(x.block(0, 0, kind), 3), kind);
            is("kind of the paragraph", x.paragraph(0, 0, 2), kind);
        }
        for (int kind : outside(0, 9)) {
            is("block of kind " + kind, x.block(0, 0, kind), NONE);
        }
    }

    private static void blockOfTheBeginning() {
        TextMarks x = new TextMarks();
        is("of an empty text", x.row(x.block(0, 0, 1), 5), 0);
        is("a sign 10 at its place 0", x.insert(0, 0, 10), 2);
        is("of the paragraph ahead of it", x.row(x.block(0, 0, 1), 5), 0);
        is("of the one behind it", x.row(x.block(0, 1, 1), 5), 2);
    }

    private static void sortsToUndo() {
        TextMarks x = written("ab");
        x.delete(0, 0);
        x.style(0, 0, 1, 0, 1);
        x.comment(0, 0, 1);
        x.block(0, 0, 1);
        x.meet(1, 0);
        for (int row = 1; row <= 6; row++) {
            is("undo by another node of sort " + x.row(row, 0), x.undo(1, row), NONE);
        }
        for (int row = 2; row <= 6; row++) {
            is("undo of sort " + x.row(row, 0), x.undo(0, row), row + 5);
        }
        for (int row = 7; row <= 11; row++) {
            is("undo of sort " + x.row(row, 0), x.undo(0, row), NONE);
        }
    }

    private static void needs() {
        TextMarks x = written("ab");
        is("block of the beginning", x.block(0, 0, 1), 3);
        is("style to the end", x.style(0, 0, 2, 1, 1), 4);
        is("comment of one sign", x.comment(0, 0, 1), 5);
        is("comment of two", x.comment(0, 0, 2), 6);
        is("it needs none", x.see(1, 3), true);
        is("style without its FROM", x.see(1, 4), false);
        is("an insert behind the beginning needs none", x.see(1, 1), true);
        is("style with its FROM, to the end", x.see(1, 4), true);
        is("comment with its FROM, which is its TO", x.see(1, 5), true);
        is("comment with its FROM, without its TO", x.see(1, 6), false);
        is("its TO, whose need it has", x.see(1, 2), true);
        is("comment with both", x.see(1, 6), true);
    }

    private static void goodByWhatIsKnown() {
        TextMarks x = written("a");
        x.meet(1, 0);
        x.undo(0, 1);
        is("where the undo is known", x.total(0, 0), 0);
        is("where it is not", x.total(1, 0), 1);
        is("where neither is", x.total(2, 0), 0);
        is("see the undo", x.see(1, 2), true);
        is("where it came to be", x.total(1, 0), 0);
    }

    private static void placesGoodOrNot() {
        TextMarks x = written("abc");
        x.delete(0, 0);
        x.undo(0, 2);
        is("signs", x.total(0, 0), 1);
        is("places", x.total(0, 4), 3);
        is("places of a node that knows none", x.total(1, 4), 0);
        x.see(1, 1);
        is("of one that knows one", x.total(1, 4), 1);
    }

    private static void allBehindTheBeginning() {
        TextMarks x = new TextMarks();
        for (int i = 0; i < ROWS; i++) {
            x.insert(0, 0, 'a');
        }
        for (int i = 0; i < ROWS; i++) {
            is("id(0, " + i + ")", x.id(0, i), ROWS - i);
        }
    }

    private static void allBehindOneAnother() {
        TextMarks x = writtenRows(ROWS - 1);
        is("behind the first one, where the second is", x.insert(0, 1, 'b'), ROWS);
        is("id(0, 0)", x.id(0, 0), 1);
        is("the later one goes first", x.id(0, 1), ROWS);
        for (int i = 2; i < ROWS; i++) {
            is("id(0, " + i + ")", x.id(0, i), i);
        }
    }

    private static void deletedTwice() {
        TextMarks x = written("ab");
        x.meet(1, 0);
        is("delete by node 0", x.delete(0, 0), 3);
        is("delete by node 1", x.delete(1, 0), 4);
        x.meet(0, 1);
        reads(x, 0, "b");
        is("undo of the first delete", x.undo(0, 3), 5);
        reads(x, 0, "b");
        is("undo of the second one", x.undo(1, 4), 6);
        // Node 1 knows its own delete and its undo alone, node 0 does not know of this undo yet.
        reads(x, 1, "ab");
        reads(x, 0, "b");
        x.meet(0, 1);
        reads(x, 0, "ab");
        is("undo of the insert too", x.undo(0, 1), 7);
        reads(x, 0, "b");
    }

    private static void signs() {
        TextMarks x = new TextMarks();
        int number = 1;
        for (int sign : new int[] {10, 32, 33, 127, 128, 1114110, 1114111}) {
            is("insert of " + sign, x.insert(0, 0, sign), number++);
            is("the sign there", x.sign(0, 0), sign);
        }
        for (int sign : new int[] {MIN, -10, -1, 0, 9, 11, 13, 31, 1114112, 1114121, MAX}) {
            is("insert of " + sign, x.insert(0, 0, sign), NONE);
        }
    }

    private static void signsThatAreHalves() {
        TextMarks x = new TextMarks();
        is("insert of 55295", x.insert(0, 0, 55295), 1);
        is("insert of 57344", x.insert(0, 0, 57344), 2);
        for (int sign : new int[] {55296, 55297, 56319, 56320, 57342, 57343}) {
            is("insert of " + sign, x.insert(0, 0, sign), NONE);
        }
        is("signs", x.total(0, 0), 2);
    }

    private static void twoUnits() {
        for (int sign : new int[] {65536, 65537, 1114111}) {
            TextMarks x = new TextMarks();
            x.insert(0, 0, sign);
            is("units of " + sign, x.total(0, 1), 2);
            is("the first one is a first half", x.unit(0, 0) >= 55296 && x.unit(0, 0) < 56320, true);
            is("the second one is a second half", x.unit(0, 1) >= 56320 && x.unit(0, 1) <= 57343, true);
            is("one more", x.unit(0, 2), NONE);
        }
    }

    private static void oneUnit() {
        for (int sign : new int[] {10, 32, 55295, 57344, 65534, 65535}) {
            TextMarks x = new TextMarks();
            x.insert(0, 0, sign);
            is("units of " + sign, x.total(0, 1), 1);
            is("itself", x.unit(0, 0), sign);
            is("one more", x.unit(0, 1), NONE);
        }
    }

    private static void unitsWrapAround() {
        int[][] units = {{65536, 55296, 56320}, {66559, 55296, 57343}, {66560, 55297, 56320}, {1113088, 56319, 56320},
            {1114111, 56319, 57343}};
        for (int[] of : units) {
            TextMarks x = new TextMarks();
            x.insert(0, 0, of[0]);
            is("first unit of " + of[0], x.unit(0, 0), of[1]);
            is("second one", x.unit(0, 1), of[2]);
        }
    }

    private static void endsThatDoNotGrow() {
        for (int key = 2; key <= 3; key++) {
            TextMarks x = written("abcd");
            x.style(0, 1, 3, key, 5);
            wears(x, 0, key, "0550");
            x.insert(0, 1, 'x');
            x.insert(0, 4, 'y');
            x.insert(0, 3, 'z');
            reads(x, 0, "axbzcyd");
            wears(x, 0, key, "0055500");
            x.style(0, 0, 1, key, 6);
            x.style(0, 6, 7, key, 7);
            wears(x, 0, key, "6055507");
        }
    }

    private static void endsThatGrow() {
        for (int key = 0; key <= 1; key++) {
            TextMarks x = written("abcd");
            x.style(0, 1, 3, key, 5);
            wears(x, 0, key, "0550");
            x.insert(0, 1, 'x');
            x.insert(0, 4, 'y');
            x.insert(0, 3, 'z');
            reads(x, 0, "axbzcyd");
            wears(x, 0, key, "0055550");
            x.delete(0, 6);
            wears(x, 0, key, "005555");
            x.insert(0, 6, 'e');
            // "e" is behind "y", and that is ahead of the deleted "d", up to which the style goes.
            wears(x, 0, key, "0055555");
        }
    }

    private static void styledToTheEnd() {
        TextMarks x = written("ab");
        for (int key = 0; key <= 3; key++) {
            x.style(0, 0, 2, key, key + 1);
        }
        x.meet(1, 0);
        x.insert(1, 2, 'c');
        x.insert(1, 3, 'd');
        wears(x, 1, 0, "1111");
        wears(x, 1, 1, "2222");
        wears(x, 1, 2, "3300");
        wears(x, 1, 3, "4400");
        x.undo(0, 1);
        x.undo(0, 2);
        x.meet(0, 1);
        reads(x, 0, "cd");
        wears(x, 0, 0, "11");
        wears(x, 0, 3, "00");
    }

    /** No call makes such a row, so it is planted. */
    private static void toAheadOfFrom() {
        for (int key = 0; key <= 3; key++) {
            TextMarks x = written("abcd");
            is("planted", plant(x, 0, 2, key, 5, 3, 2), 5);
            rowIs(x, 5, 2, 0, 5, key, 5, 3, 2);
            wears(x, 0, key, "0000");
            is("planted", plant(x, 0, 2, key, 6, 4, 1), 6);
            wears(x, 0, key, "0000");
            x.delete(0, 1);
            x.delete(0, 1);
            wears(x, 0, key, "00");
            is("runs", x.total(0, 2), 1);
        }
    }

    /** No call makes such a row of a key that grows, so it is planted; of the others it is one of a single sign. */
    private static void toIsFrom() {
        for (int key = 0; key <= 3; key++) {
            TextMarks x = written("abc");
            is("planted", plant(x, 0, 2, key, 5, 2, 2), 4);
            wears(x, 0, key, key < 2 ? "000" : "050");
            x.insert(0, 2, 'x');
            x.insert(0, 1, 'y');
            reads(x, 0, "aybxc");
            wears(x, 0, key, key < 2 ? "00000" : "00500");
        }
    }

    private static void leastCovered() {
        for (int key = 0; key <= 3; key++) {
            TextMarks x = written("abc");
            int style = x.style(0, 1, 2, key, 5);
            is("FROM", x.row(style, 5), 2);
            is("TO of key " + key, x.row(style, 6), key < 2 ? 3 : 2);
            wears(x, 0, key, "050");
            x.delete(0, 1);
            wears(x, 0, key, "00");
            x.insert(0, 1, 'x');
            reads(x, 0, "axc");
            wears(x, 0, key, "000");
            x.undo(0, 5);
            wears(x, 0, key, "0050");
            is("style of no signs", x.style(0, 1, 1, key, 5), NONE);
            is("style from behind its end", x.style(0, 2, 1, key, 5), NONE);
        }
    }

    private static void lastStyle() {
        TextMarks x = written("ab");
        x.meet(1, 0);
        x.meet(2, 0);
        is("by node 1", x.style(1, 0, 2, 2, 4), 3);
        is("by node 0, of the same time", x.style(0, 0, 2, 2, 5), 4);
        is("by node 0, of a greater time, the first sign alone", x.style(0, 0, 1, 2, 6), 5);
        x.meet(2, 0);
        x.meet(2, 1);
        wears(x, 2, 2, "64");
        x.undo(0, 5);
        x.meet(2, 0);
        wears(x, 2, 2, "44");
        x.undo(1, 3);
        x.meet(2, 1);
        wears(x, 2, 2, "55");
    }

    private static void withoutStyle() {
        TextMarks x = written("a");
        for (int key = 0; key <= 3; key++) {
            is("key " + key + " without a style", x.styled(0, 0, key), 0);
        }
        is("style", x.style(0, 0, 1, 3, 9), 2);
        is("its own key", x.styled(0, 0, 3), 9);
        is("another key", x.styled(0, 0, 2), 0);
        x.undo(0, 2);
        is("undone", x.styled(0, 0, 3), 0);
        is("in a run", x.run(0, 0, 5), 0);
    }

    private static void runsByEachKey() {
        for (int key = 0; key <= 3; key++) {
            TextMarks x = written("abc");
            x.style(0, 1, 2, key, 1);
            is("runs by key " + key, x.total(0, 2), 3);
            x.style(0, 0, 1, key, 1);
            is("the same value by two styles", x.total(0, 2), 2);
            is("signs of the first run", x.run(0, 0, 1), 2);
            x.style(0, 2, 3, key, 1);
            is("all the same", x.total(0, 2), 1);
            x.style(0, 2, 3, 3 - key, 1);
            is("another key's value", x.total(0, 2), 2);
        }
    }

    private static void runsOfNoneAndOfAll() {
        TextMarks x = new TextMarks();
        is("runs of an empty text", x.total(0, 2), 0);
        write(x, 0, 0, "a\nb");
        is("a sign 10 parts no run", x.total(0, 2), 1);
        is("signs of the run", x.run(0, 0, 1), 3);
        x.style(0, 1, 2, 2, 1);
        is("three runs", x.total(0, 2), 3);
        x.delete(0, 1);
        is("joined where the other was", x.total(0, 2), 1);
        is("signs of the run", x.run(0, 0, 1), 2);
        x.delete(0, 0);
        x.delete(0, 0);
        is("runs of an emptied text", x.total(0, 2), 0);
    }

    private static void commentFrom() {
        TextMarks x = written("ab");
        is("comment of the first sign", x.comment(0, 0, 1), 3);
        is("comment of the last sign", x.comment(0, 1, 2), 4);
        is("none ahead", x.lies(0, 3, 0), 0);
        is("one ahead", x.lies(0, 4, 0), 1);
        x.insert(0, 0, 'x');
        is("one more ahead", x.lies(0, 3, 0), 1);
        x.delete(0, 1);
        is("FROM itself is deleted", x.lies(0, 3, 0), 1);
        x.delete(0, 0);
        is("none ahead again", x.lies(0, 4, 0), 0);
        x.undo(0, 4);
        is("not good any more", x.lies(0, 4, 0), NONE);
    }

    private static void commentTo() {
        TextMarks x = written("abc");
        is("comment of all", x.comment(0, 0, 3), 4);
        is("no place behind its TO", x.lies(0, 4, 1), 3);
        is("comment of the first", x.comment(0, 0, 1), 5);
        x.insert(0, 1, 'x');
        is("a sign behind its TO does not count", x.lies(0, 5, 1), 1);
        x.insert(0, 4, 'y');
        is("nor one behind the last", x.lies(0, 4, 1), 4);
        x.delete(0, 1);
        is("the place behind its TO is not seen", x.lies(0, 5, 1), 1);
        is("one between is not seen", x.lies(0, 4, 1), 3);
        x.delete(0, 2);
        is("TO itself is deleted", x.lies(0, 4, 1), 2);
    }

    /** No call makes a comment whose TO is ahead of its FROM, so it is planted. */
    private static void commentToIsLess() {
        TextMarks x = written("abcd");
        is("planted", plant(x, 0, 3, 0, 0, 4, 1), 5);
        lie(x, 0, 5, 3, 3);
        is("planted", plant(x, 0, 3, 0, 0, 3, 2), 6);
        lie(x, 0, 6, 2, 2);
        x.delete(0, 0);
        lie(x, 0, 5, 2, 2);
        x.meet(1, 0);
        is("alike", x.alike(0, 1), true);
        lie(x, 1, 5, 2, 2);
    }

    /** The nearest that a call can make is a comment whose text is gone. */
    private static void emptiedComment() {
        TextMarks x = written("abcd");
        is("comment", x.comment(0, 1, 3), 5);
        lie(x, 0, 5, 1, 3);
        x.delete(0, 1);
        lie(x, 0, 5, 1, 2);
        x.delete(0, 1);
        lie(x, 0, 5, 1, 1);
        x.delete(0, 1);
        lie(x, 0, 5, 1, 1);
        x.delete(0, 0);
        lie(x, 0, 5, 0, 0);
        is("comment of no signs", x.comment(0, 0, 0), NONE);
    }

    private static void emptyParagraphs() {
        TextMarks x = written("\n\na\n");
        int[][] want = {{0, 0}, {1, 0}, {2, 1}, {4, 0}};
        for (int k = 0; k < want.length; k++) {
            is("first place of paragraph " + k, x.paragraph(0, k, 0), want[k][0]);
            is("signs of paragraph " + k, x.paragraph(0, k, 1), want[k][1]);
        }
        x.delete(0, 1);
        is("a deleted sign 10 parts none", x.total(0, 3), 3);
        is("signs of paragraph 1", x.paragraph(0, 1, 1), 1);
    }

    private static void oneParagraphMore() {
        TextMarks x = new TextMarks();
        is("of an empty text", x.total(0, 3), 1);
        x.insert(0, 0, 'a');
        is("without a sign 10", x.total(0, 3), 1);
        x.insert(0, 0, 10);
        is("with one", x.total(0, 3), 2);
        x.delete(0, 1);
        is("with one alone", x.total(0, 3), 2);
        x.undo(0, 2);
        is("of an emptied text", x.total(0, 3), 1);
        TextMarks y = new TextMarks();
        for (int i = 0; i < ROWS; i++) {
            y.insert(0, i, 10);
        }
        is("of 250", y.total(0, 3), 251);
        is("the last one's first place", y.paragraph(0, 250, 0), 250);
        is("one more", y.paragraph(0, 251, 0), NONE);
    }

    private static void lastBlock() {
        TextMarks x = new TextMarks();
        is("by node 1", x.block(1, 0, 4), 1);
        is("by node 0, of the same time", x.block(0, 0, 5), 2);
        x.meet(2, 0);
        x.meet(2, 1);
        is("the greater node's, though it came first", x.paragraph(2, 0, 2), 4);
        is("by node 0, of a greater time", x.block(0, 0, 6), 3);
        x.meet(2, 0);
        is("the one of the greatest time", x.paragraph(2, 0, 2), 6);
        x.undo(0, 3);
        x.undo(1, 1);
        x.meet(2, 0);
        is("without the one that is undone", x.paragraph(2, 0, 2), 4);
        x.meet(2, 1);
        is("without both", x.paragraph(2, 0, 2), 5);
    }

    private static void withoutBlock() {
        TextMarks x = new TextMarks();
        is("of an empty text", x.paragraph(0, 0, 2), 0);
        write(x, 0, 0, "a\nb");
        is("the first one", x.paragraph(0, 0, 2), 0);
        is("the second one", x.paragraph(0, 1, 2), 0);
        x.block(0, 0, 7);
        is("a block for the first one alone", x.paragraph(0, 1, 2), 0);
        x.undo(0, 4);
        is("undone", x.paragraph(0, 0, 2), 0);
    }

    private static void kindOfTheOthers() {
        TextMarks x = written("\n\n");
        is("block of paragraph 1", x.block(0, 1, 5), 3);
        is("block of paragraph 2", x.block(0, 2, 6), 4);
        is("the first one keeps its own", x.paragraph(0, 0, 2), 0);
        is("the second one's", x.paragraph(0, 1, 2), 5);
        is("the third one's", x.paragraph(0, 2, 2), 6);
        is("delete of the first sign 10", x.delete(0, 0), 5);
        is("the first one keeps its own", x.paragraph(0, 0, 2), 0);
        is("the kind goes with its sign 10", x.paragraph(0, 1, 2), 6);
        is("undo of the delete", x.undo(0, 5), 6);
        is("it is back", x.paragraph(0, 1, 2), 5);
        is("a sign 10 ahead of all", x.insert(0, 0, 10), 7);
        is("has no kind yet", x.paragraph(0, 1, 2), 0);
        is("the one behind it keeps its own", x.paragraph(0, 2, 2), 5);
    }
}
