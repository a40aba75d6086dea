/**
 * A text that several people write and mark at once. Every answer is worked out from the rows
 * that a node knows, so it can't depend on the order in which they came.
 */
public final class TextMarks {
    public static final int NONE = -1;

    private static final int NODES = 4;
    private static final int MOST_ROWS = 250;

    private static final int INSERT = 0;
    private static final int DELETE = 1;
    private static final int STYLE = 2;
    private static final int COMMENT = 3;
    private static final int BLOCK = 4;
    private static final int UNDO = 5;

    // The cells of a row are numbered as the face's row() asks for them, so that it can pass them on.
    private static final int SORT = 0;
    private static final int NODE = 1;
    private static final int TIME = 2;
    private static final int DETAIL = 3;
    private static final int VALUE = 4;
    private static final int FIRST = 5;
    private static final int SECOND = 6;
    private static final int CELLS = 7;

    private static final int KEYS = 4;
    private static final int GROWING_KEYS = 2;
    private static final int MOST_VALUE = 9;
    private static final int MOST_KIND = 9;

    private static final int LINE_END = 10;
    private static final int FIRST_PRINTED_SIGN = 32;
    private static final int LAST_SIGN = 1114111;
    private static final int HIGH_HALVES = 55296;
    private static final int LOW_HALVES = 56320;
    private static final int LAST_HALF = 57343;
    private static final int FIRST_WIDE_SIGN = 65536;
    private static final int HALF_SPAN = 1024;

    private final Rows rows;
    private final Node[] nodes;
    private final View view;
    // alike() alone looks at two nodes at once.
    private final View otherView;

    public TextMarks() {
        rows = new Rows();
        nodes = new Node[NODES];
        for (int i = 0; i < NODES; i++) {
            nodes[i] = new Node();
        }
        view = new View();
        otherView = new View();
    }

    public int insert(int node, int at, int sign) {
        if (!isSign(sign) || !shows(node) || at < 0 || at > view.size()) {
            return NONE;
        }
        return write(node, INSERT, sign, 0, view.insertAt(at - 1), 0);
    }

    public int delete(int node, int at) {
        if (!shows(node) || !view.hasPlace(at)) {
            return NONE;
        }
        return write(node, DELETE, 0, 0, view.insertAt(at), 0);
    }

    public int style(int node, int from, int to, int key, int value) {
        if (!isKey(key) || value < 0 || value > MOST_VALUE) {
            return NONE;
        }
        if (!shows(node) || !view.hasRange(from, to)) {
            return NONE;
        }
        int last = grows(key) ? view.insertAt(to) : view.insertAt(to - 1);
        return write(node, STYLE, key, value, view.insertAt(from), last);
    }

    public int comment(int node, int from, int to) {
        if (!shows(node) || !view.hasRange(from, to)) {
            return NONE;
        }
        return write(node, COMMENT, 0, 0, view.insertAt(from), view.insertAt(to - 1));
    }

    public int block(int node, int k, int kind) {
        if (kind < 0 || kind > MOST_KIND || !shows(node)) {
            return NONE;
        }
        int start = view.paragraphStart(k);
        return start == NONE ? NONE : write(node, BLOCK, kind, 0, view.insertAt(start - 1), 0);
    }

    public int undo(int node, int row) {
        if (!rows.has(row) || rows.cell(row, NODE) != node) {
            return NONE;
        }
        if (rows.cell(row, SORT) == UNDO || rows.undoOf(row) != 0) {
            return NONE;
        }
        return write(node, UNDO, 0, 0, row, 0);
    }

    public boolean see(int node, int row) {
        Node learner = nodeOf(node);
        if (learner == null || !rows.has(row) || learner.knows(row) || !knowsNeeds(learner, row)) {
            return false;
        }
        learner.learn(row, rows.cell(row, TIME));
        return true;
    }

    public int meet(int node, int other) {
        Node learner = nodeOf(node);
        Node teller = nodeOf(other);
        if (learner == null || teller == null || node == other) {
            return NONE;
        }
        // What a row needs has a smaller number and is known to the teller, so going by the
        // numbers no need can be missing here.
        int learned = 0;
        for (int row = 1; row <= rows.count(); row++) {
            if (teller.knows(row) && !learner.knows(row)) {
                learner.learn(row, rows.cell(row, TIME));
                learned++;
            }
        }
        return learned;
    }

    public int sign(int node, int i) {
        return shows(node) ? view.signAt(i) : NONE;
    }

    public int id(int node, int i) {
        return shows(node) && view.hasPlace(i) ? view.insertAt(i) : NONE;
    }

    public int unit(int node, int i) {
        return shows(node) ? view.unitAt(i) : NONE;
    }

    public int styled(int node, int i, int key) {
        if (!isKey(key) || !shows(node)) {
            return NONE;
        }
        view.paint(rows);
        return view.valueAt(i, key);
    }

    public int run(int node, int k, int what) {
        if (what < 0 || what >= 2 + KEYS || !shows(node)) {
            return NONE;
        }
        view.paint(rows);
        int start = view.runStart(k);
        if (start == NONE) {
            return NONE;
        }
        switch (what) {
            case 0:
                return start;
            case 1:
                return view.runEnd(start) - start;
            default:
                return view.valueAt(start, what - 2);
        }
    }

    public int lies(int node, int comment, int side) {
        if (side < 0 || side > 1 || rows.cell(comment, SORT) != COMMENT) {
            return NONE;
        }
        if (!shows(node) || !view.isGood(comment)) {
            return NONE;
        }
        return side == 0 ? commentFrom(view, comment) : commentTo(view, comment);
    }

    public int paragraph(int node, int k, int what) {
        int start = shows(node) ? view.paragraphStart(k) : NONE;
        if (start == NONE) {
            return NONE;
        }
        switch (what) {
            case 0:
                return start;
            case 1:
                return view.paragraphEnd(start) - start;
            case 2:
                view.tellKinds(rows);
                return view.kindFrom(start);
            default:
                return NONE;
        }
    }

    public int row(int row, int what) {
        return rows.cell(row, what);
    }

    public boolean alike(int a, int b) {
        Node one = nodeOf(a);
        Node other = nodeOf(b);
        if (one == null || other == null) {
            return false;
        }
        showAll(view, one);
        showAll(otherView, other);
        return view.hasSameText(otherView) && view.hasSameKinds(otherView) && haveSameComments();
    }

    public int total(int node, int what) {
        Node reader = nodeOf(node);
        if (reader == null) {
            return NONE;
        }
        view.show(rows, reader);
        switch (what) {
            case 0:
                return view.size();
            case 1:
                return view.unitCount();
            case 2:
                view.paint(rows);
                return view.runCount();
            case 3:
                return view.paragraphCount();
            case 4:
                return placesOf(reader);
            case 5:
                return reader.known();
            case 6:
                return reader.time();
            default:
                return NONE;
        }
    }

    private Node nodeOf(int node) {
        return node >= 0 && node < nodes.length ? nodes[node] : null;
    }

    private static boolean isSign(int sign) {
        if (sign >= HIGH_HALVES && sign <= LAST_HALF) {
            return false;
        }
        return sign == LINE_END || sign >= FIRST_PRINTED_SIGN && sign <= LAST_SIGN;
    }

    private static boolean isKey(int key) {
        return key >= 0 && key < KEYS;
    }

    private static boolean grows(int key) {
        return key < GROWING_KEYS;
    }

    /** Whether there is such a node; then the view is its. */
    private boolean shows(int node) {
        Node reader = nodeOf(node);
        if (reader == null) {
            return false;
        }
        view.show(rows, reader);
        return true;
    }

    private int write(int node, int sort, int detail, int value, int first, int second) {
        Node writer = nodeOf(node);
        if (writer == null) {
            return NONE;
        }
        int time = writer.time() + 1;
        int made = rows.add(node, time, sort, detail, value, first, second);
        if (made != NONE) {
            writer.learn(made, time);
        }
        return made;
    }

    private boolean knowsNeeds(Node learner, int row) {
        int first = rows.cell(row, FIRST);
        int second = rows.cell(row, SECOND);
        return (first == 0 || learner.knows(first)) && (second == 0 || learner.knows(second));
    }

    private int placesOf(Node reader) {
        int places = 0;
        for (int i = 0; i < rows.placeCount(); i++) {
            if (reader.knows(rows.placeAt(i))) {
                places++;
            }
        }
        return places;
    }

    private int commentFrom(View shown, int comment) {
        return shown.aheadOf(rows.cell(comment, FIRST));
    }

    private int commentTo(View shown, int comment) {
        return Math.max(commentFrom(shown, comment), shown.aheadBehind(rows.cell(comment, SECOND)));
    }

    private void showAll(View shown, Node reader) {
        shown.show(rows, reader);
        shown.paint(rows);
        shown.tellKinds(rows);
    }

    private boolean haveSameComments() {
        for (int row = 1; row <= rows.count(); row++) {
            if (rows.cell(row, SORT) == COMMENT && !isSameComment(row)) {
                return false;
            }
        }
        return true;
    }

    private boolean isSameComment(int comment) {
        if (!view.isGood(comment) || !otherView.isGood(comment)) {
            return view.isGood(comment) == otherView.isGood(comment);
        }
        return commentFrom(view, comment) == commentFrom(otherView, comment)
                && commentTo(view, comment) == commentTo(otherView, comment);
    }

    /** All rows that any node made, with the two orders that every node shares. */
    private static final class Rows {
        private int count;
        // Row numbers begin at 1: row 0 stays empty and stands for the beginning or the end.
        private final int[] cells = new int[(MOST_ROWS + 1) * CELLS];
        // A row has one undo at most, as only its own node may undo it, and once.
        private final int[] undos = new int[MOST_ROWS + 1];
        private final int[] inOrder = new int[MOST_ROWS];
        // A node that knows an insert knows all that it is behind, so each node's places are
        // those of this one list that it knows.
        private final int[] places = new int[MOST_ROWS];
        private int placeCount;

        int count() {
            return count;
        }

        boolean has(int row) {
            return row >= 1 && row <= count;
        }

        int cell(int row, int what) {
            return has(row) && what >= 0 && what < CELLS ? cells[row * CELLS + what] : NONE;
        }

        int undoOf(int row) {
            return has(row) ? undos[row] : 0;
        }

        int inOrderAt(int i) {
            return i >= 0 && i < count ? inOrder[i] : 0;
        }

        int placeCount() {
            return placeCount;
        }

        int placeAt(int i) {
            return i >= 0 && i < placeCount ? places[i] : 0;
        }

        int add(int node, int time, int sort, int detail, int value, int first, int second) {
            if (count >= MOST_ROWS) {
                return NONE;
            }
            count++;
            int base = count * CELLS;
            cells[base + SORT] = sort;
            cells[base + NODE] = node;
            cells[base + TIME] = time;
            cells[base + DETAIL] = detail;
            cells[base + VALUE] = value;
            cells[base + FIRST] = first;
            cells[base + SECOND] = second;
            fileInOrder(count);
            if (sort == INSERT) {
                fileInPlaces(count, first);
            }
            if (sort == UNDO && has(first)) {
                undos[first] = count;
            }
            return count;
        }

        private boolean isLater(int row, int than) {
            int time = cell(row, TIME);
            int otherTime = cell(than, TIME);
            return time > otherTime || time == otherTime && cell(row, NODE) > cell(than, NODE);
        }

        private void fileInOrder(int row) {
            int at = count - 1;
            while (at > 0 && isLater(inOrder[at - 1], row)) {
                inOrder[at] = inOrder[at - 1];
                at--;
            }
            inOrder[at] = row;
        }

        private void fileInPlaces(int row, int behind) {
            int at = firstPlaceBehind(behind);
            // An insert is later than the one it is behind. So what follows and is later than
            // this row hangs on later ones behind the same insert, and the first earlier one
            // ends them.
            while (at < placeCount && isLater(places[at], row)) {
                at++;
            }
            for (int i = placeCount; i > at; i--) {
                places[i] = places[i - 1];
            }
            places[at] = row;
            placeCount++;
        }

        private int firstPlaceBehind(int insert) {
            for (int i = 0; i < placeCount; i++) {
                if (places[i] == insert) {
                    return i + 1;
                }
            }
            return 0;
        }
    }

    /** One of the people: which rows it knows, and its time. */
    private static final class Node {
        private final boolean[] knowing = new boolean[MOST_ROWS + 1];
        private int known;
        private int time;

        int known() {
            return known;
        }

        int time() {
            return time;
        }

        boolean knows(int row) {
            return row >= 0 && row < knowing.length && knowing[row];
        }

        void learn(int row, int rowTime) {
            if (row < 1 || row >= knowing.length || knowing[row]) {
                return;
            }
            knowing[row] = true;
            known++;
            time = Math.max(time, rowTime);
        }
    }

    /**
     * What a node has before it. It is filled anew in each call, because a single row (an undo,
     * say) may change all of it, and kept between calls only to save the room.
     */
    private static final class View {
        private static final int BITS_OF_A_KEY = 4;
        private static final int MASK_OF_A_KEY = 15;

        private int size;
        // By place of the text.
        private final int[] inserts = new int[MOST_ROWS];
        private final int[] signs = new int[MOST_ROWS];
        // The values of all keys in one number, so that signs with the same ones are found by ==.
        private final int[] looks = new int[MOST_ROWS];
        // By number of the row.
        private final boolean[] good = new boolean[MOST_ROWS + 1];
        private final boolean[] seen = new boolean[MOST_ROWS + 1];
        private final int[] ahead = new int[MOST_ROWS + 1];
        private final int[] kinds = new int[MOST_ROWS + 1];

        void show(Rows rows, Node node) {
            markGoodAndSeen(rows, node);
            size = 0;
            for (int i = 0; i < rows.placeCount(); i++) {
                int insert = rows.placeAt(i);
                ahead[insert] = size;
                if (seen[insert]) {
                    inserts[size] = insert;
                    signs[size] = rows.cell(insert, DETAIL);
                    size++;
                }
            }
        }

        private void markGoodAndSeen(Rows rows, Node node) {
            for (int row = 1; row <= rows.count(); row++) {
                int sort = rows.cell(row, SORT);
                good[row] = node.knows(row) && !node.knows(rows.undoOf(row));
                seen[row] = good[row] && sort == INSERT;
                // A delete's number is above its insert's, so that one has been marked by now.
                if (good[row] && sort == DELETE) {
                    hide(rows.cell(row, FIRST));
                }
            }
        }

        private void hide(int insert) {
            if (insert >= 0 && insert < seen.length) {
                seen[insert] = false;
            }
        }

        int size() {
            return size;
        }

        boolean isGood(int row) {
            return row >= 0 && row < good.length && good[row];
        }

        boolean hasPlace(int place) {
            return place >= 0 && place < size;
        }

        boolean hasRange(int from, int to) {
            return from >= 0 && from < to && to <= size;
        }

        /** Outside the text 0, which is how rows name its beginning and its end. */
        int insertAt(int place) {
            return hasPlace(place) ? inserts[place] : 0;
        }

        int signAt(int place) {
            return hasPlace(place) ? signs[place] : NONE;
        }

        int aheadOf(int insert) {
            return insert >= 0 && insert < ahead.length ? ahead[insert] : 0;
        }

        /** How many signs are ahead of the place that follows the insert. */
        int aheadBehind(int insert) {
            int itself = insert >= 0 && insert < seen.length && seen[insert] ? 1 : 0;
            return aheadOf(insert) + itself;
        }

        int unitCount() {
            int units = 0;
            for (int place = 0; place < size; place++) {
                units += widthOf(signs[place]);
            }
            return units;
        }

        int unitAt(int unit) {
            if (unit < 0) {
                return NONE;
            }
            int left = unit;
            for (int place = 0; place < size; place++) {
                int width = widthOf(signs[place]);
                if (left < width) {
                    return partOf(signs[place], left);
                }
                left -= width;
            }
            return NONE;
        }

        private static int widthOf(int sign) {
            return sign >= FIRST_WIDE_SIGN ? 2 : 1;
        }

        private static int partOf(int sign, int part) {
            if (sign < FIRST_WIDE_SIGN) {
                return sign;
            }
            int over = sign - FIRST_WIDE_SIGN;
            return part == 0 ? HIGH_HALVES + over / HALF_SPAN : LOW_HALVES + over % HALF_SPAN;
        }

        /** Lays the good styles over each other in their order, so that the last one stays. */
        void paint(Rows rows) {
            for (int place = 0; place < size; place++) {
                looks[place] = 0;
            }
            for (int i = 0; i < rows.count(); i++) {
                int row = rows.inOrderAt(i);
                if (isGood(row) && rows.cell(row, SORT) == STYLE) {
                    paintOne(rows, row);
                }
            }
        }

        private void paintOne(Rows rows, int style) {
            int key = rows.cell(style, DETAIL);
            int shift = key * BITS_OF_A_KEY;
            int colour = rows.cell(style, VALUE) << shift;
            int others = ~(MASK_OF_A_KEY << shift);
            int end = endOf(key, rows.cell(style, SECOND));
            for (int place = aheadOf(rows.cell(style, FIRST)); place < end; place++) {
                looks[place] = looks[place] & others | colour;
            }
        }

        private int endOf(int key, int to) {
            if (!grows(key)) {
                return aheadBehind(to);
            }
            return to == 0 ? size : aheadOf(to);
        }

        int valueAt(int place, int key) {
            return hasPlace(place) ? looks[place] >> key * BITS_OF_A_KEY & MASK_OF_A_KEY : NONE;
        }

        private boolean startsRun(int place) {
            return place == 0 || looks[place] != looks[place - 1];
        }

        int runCount() {
            int runs = 0;
            for (int place = 0; place < size; place++) {
                if (startsRun(place)) {
                    runs++;
                }
            }
            return runs;
        }

        int runStart(int k) {
            int runs = 0;
            for (int place = 0; place < size; place++) {
                if (startsRun(place)) {
                    if (runs == k) {
                        return place;
                    }
                    runs++;
                }
            }
            return NONE;
        }

        int runEnd(int start) {
            int end = start + 1;
            while (end < size && !startsRun(end)) {
                end++;
            }
            return end;
        }

        int paragraphCount() {
            int paragraphs = 1;
            for (int place = 0; place < size; place++) {
                if (signs[place] == LINE_END) {
                    paragraphs++;
                }
            }
            return paragraphs;
        }

        int paragraphStart(int k) {
            if (k == 0) {
                return 0;
            }
            int ended = 0;
            for (int place = 0; place < size; place++) {
                if (signs[place] == LINE_END) {
                    ended++;
                    if (ended == k) {
                        return place + 1;
                    }
                }
            }
            return NONE;
        }

        int paragraphEnd(int start) {
            int end = start;
            while (end < size && signs[end] != LINE_END) {
                end++;
            }
            return end;
        }

        /** Goes by the rows' order too, so that the last good block of each insert stays. */
        void tellKinds(Rows rows) {
            for (int insert = 0; insert < kinds.length; insert++) {
                kinds[insert] = 0;
            }
            for (int i = 0; i < rows.count(); i++) {
                int row = rows.inOrderAt(i);
                if (isGood(row) && rows.cell(row, SORT) == BLOCK) {
                    keepKind(rows.cell(row, FIRST), rows.cell(row, DETAIL));
                }
            }
        }

        private void keepKind(int insert, int kind) {
            if (insert >= 0 && insert < kinds.length) {
                kinds[insert] = kind;
            }
        }

        int kindFrom(int start) {
            int insert = insertAt(start - 1);
            return insert >= 0 && insert < kinds.length ? kinds[insert] : 0;
        }

        boolean hasSameText(View other) {
            if (size != other.size) {
                return false;
            }
            for (int place = 0; place < size; place++) {
                if (signs[place] != other.signs[place] || looks[place] != other.looks[place]) {
                    return false;
                }
            }
            return true;
        }

        /** Only for two views of the same text, whose paragraphs begin at the same places. */
        boolean hasSameKinds(View other) {
            if (kindFrom(0) != other.kindFrom(0)) {
                return false;
            }
            for (int place = 0; place < size; place++) {
                if (signs[place] == LINE_END && kindFrom(place + 1) != other.kindFrom(place + 1)) {
                    return false;
                }
            }
            return true;
        }
    }
}
