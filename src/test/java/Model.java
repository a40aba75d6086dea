import java.util.ArrayList;
import java.util.HashMap;
import java.util.List;
import java.util.Map;
import java.util.TreeSet;

/**
 * The document read word by word, without care for speed: trees by recursion, every answer from
 * the whole list of rows. ModelTest holds the program against it.
 */
final class Model {
    private static final int NONE = -1;

    private record Row(int number, int node, int time, int sort, int detail, int value, int first, int second) {
    }

    private final List<Row> rows = new ArrayList<>();
    private final List<TreeSet<Integer>> known = new ArrayList<>();
    private final int[] times = new int[4];

    Model() {
        for (int i = 0; i < 4; i++) {
            known.add(new TreeSet<>());
        }
    }

    int answer(String name, int[] a) {
        return switch (name) {
            case "insert" -> insert(a[0], a[1], a[2]);
            case "delete" -> delete(a[0], a[1]);
            case "style" -> style(a);
            case "comment" -> comment(a[0], a[1], a[2]);
            case "block" -> block(a[0], a[1], a[2]);
            case "undo" -> undo(a[0], a[1]);
            case "see" -> see(a[0], a[1]) ? 1 : 0;
            case "meet" -> meet(a[0], a[1]);
            case "sign" -> isPlace(a[0], a[1]) ? seen(a[0]).get(a[1]).detail : NONE;
            case "id" -> isPlace(a[0], a[1]) ? seen(a[0]).get(a[1]).number : NONE;
            case "unit" -> unit(a[0], a[1]);
            case "styled" -> isPlace(a[0], a[1]) && a[2] >= 0 && a[2] < 4 ? valueOf(a[0], seen(a[0]).get(a[1]), a[2]) : NONE;
            case "run" -> run(a[0], a[1], a[2]);
            case "lies" -> lies(a[0], a[1], a[2]);
            case "paragraph" -> paragraph(a[0], a[1], a[2]);
            case "row" -> row(a[0], a[1]);
            case "alike" -> isNode(a[0]) && isNode(a[1]) && picture(a[0]).equals(picture(a[1])) ? 1 : 0;
            case "total" -> total(a[0], a[1]);
            default -> throw new IllegalArgumentException(name);
        };
    }

    private static boolean isNode(int node) {
        return node >= 0 && node <= 3;
    }

    private boolean isPlace(int node, int i) {
        return isNode(node) && i >= 0 && i < seen(node).size();
    }

    private boolean isRange(int node, int from, int to) {
        return isNode(node) && 0 <= from && from < to && to <= seen(node).size();
    }

    private Row byNumber(int number) {
        return number >= 1 && number <= rows.size() ? rows.get(number - 1) : null;
    }

    private static int compare(Row a, Row b) {
        return a.time != b.time ? Integer.compare(a.time, b.time) : Integer.compare(a.node, b.node);
    }

    private int make(int node, int sort, int detail, int value, int first, int second) {
        if (rows.size() == 250) {
            return NONE;
        }
        times[node]++;
        rows.add(new Row(rows.size() + 1, node, times[node], sort, detail, value, first, second));
        known.get(node).add(rows.size());
        return rows.size();
    }

    private boolean good(int node, Row row) {
        if (!known.get(node).contains(row.number)) {
            return false;
        }
        for (Row other : rows) {
            if (other.sort == 5 && other.first == row.number && known.get(node).contains(other.number)) {
                return false;
            }
        }
        return true;
    }

    private List<Row> places(int node) {
        List<Row> all = new ArrayList<>();
        hangBehind(node, 0, all);
        return all;
    }

    private void hangBehind(int node, int parent, List<Row> all) {
        List<Row> children = new ArrayList<>();
        for (Row row : rows) {
            if (row.sort == 0 && row.first == parent && known.get(node).contains(row.number)) {
                children.add(row);
            }
        }
        children.sort((a, b) -> compare(b, a));
        for (Row child : children) {
            all.add(child);
            hangBehind(node, child.number, all);
        }
    }

    private boolean isSeen(int node, Row place) {
        if (!good(node, place)) {
            return false;
        }
        for (Row row : rows) {
            if (row.sort == 1 && row.first == place.number && good(node, row)) {
                return false;
            }
        }
        return true;
    }

    private List<Row> seen(int node) {
        List<Row> text = places(node);
        text.removeIf(place -> !isSeen(node, place));
        return text;
    }

    private int insert(int node, int at, int sign) {
        boolean isSign = sign == 10 || sign >= 32 && sign <= 55295 || sign >= 57344 && sign <= 1114111;
        if (!isNode(node) || !isSign || at < 0 || at > seen(node).size()) {
            return NONE;
        }
        return make(node, 0, sign, 0, at == 0 ? 0 : seen(node).get(at - 1).number, 0);
    }

    private int delete(int node, int at) {
        return isPlace(node, at) ? make(node, 1, 0, 0, seen(node).get(at).number, 0) : NONE;
    }

    private int style(int[] a) {
        int node = a[0];
        if (!isRange(node, a[1], a[2]) || a[3] < 0 || a[3] > 3 || a[4] < 0 || a[4] > 9) {
            return NONE;
        }
        List<Row> text = seen(node);
        int to = text.get(a[2] - 1).number;
        if (a[3] <= 1) {
            to = a[2] < text.size() ? text.get(a[2]).number : 0;
        }
        return make(node, 2, a[3], a[4], text.get(a[1]).number, to);
    }

    private int comment(int node, int from, int to) {
        if (!isRange(node, from, to)) {
            return NONE;
        }
        return make(node, 3, 0, 0, seen(node).get(from).number, seen(node).get(to - 1).number);
    }

    /** The inserts that begin the paragraphs: 0, then those of the seen signs 10. */
    private List<Integer> heads(int node) {
        List<Integer> heads = new ArrayList<>();
        heads.add(0);
        for (Row row : seen(node)) {
            if (row.detail == 10) {
                heads.add(row.number);
            }
        }
        return heads;
    }

    private int block(int node, int k, int kind) {
        if (!isNode(node) || k < 0 || k >= heads(node).size() || kind < 0 || kind > 9) {
            return NONE;
        }
        return make(node, 4, kind, 0, heads(node).get(k), 0);
    }

    private int undo(int node, int number) {
        Row row = byNumber(number);
        if (!isNode(node) || row == null || row.node != node || row.sort > 4 || !good(node, row)) {
            return NONE;
        }
        return make(node, 5, 0, 0, number, 0);
    }

    private boolean see(int node, int number) {
        Row row = byNumber(number);
        if (!isNode(node) || row == null || known.get(node).contains(number)) {
            return false;
        }
        for (int need : new int[] {row.first, row.second}) {
            if (need != 0 && !known.get(node).contains(need)) {
                return false;
            }
        }
        known.get(node).add(number);
        times[node] = Math.max(times[node], row.time);
        return true;
    }

    private int meet(int node, int other) {
        if (!isNode(node) || !isNode(other) || node == other) {
            return NONE;
        }
        int count = 0;
        for (int number : known.get(other)) {
            if (see(node, number)) {
                count++;
            }
        }
        return count;
    }

    private List<Integer> units(int node) {
        List<Integer> units = new ArrayList<>();
        for (Row row : seen(node)) {
            for (char unit : Character.toChars(row.detail)) {
                units.add((int) unit);
            }
        }
        return units;
    }

    private int unit(int node, int i) {
        return isNode(node) && i >= 0 && i < units(node).size() ? units(node).get(i) : NONE;
    }

    private boolean covers(Row style, int place, Map<Integer, Integer> index) {
        int from = index.get(style.first);
        boolean grows = style.detail <= 1;
        if (grows) {
            return place >= from && (style.second == 0 || place < index.get(style.second));
        }
        return place >= from && place <= index.get(style.second);
    }

    private Map<Integer, Integer> indexes(int node) {
        Map<Integer, Integer> index = new HashMap<>();
        for (Row row : places(node)) {
            index.put(row.number, index.size());
        }
        return index;
    }

    private int valueOf(int node, Row sign, int key) {
        Map<Integer, Integer> index = indexes(node);
        Row last = null;
        for (Row row : rows) {
            if (row.sort == 2 && row.detail == key && good(node, row) && covers(row, index.get(sign.number), index)
                    && (last == null || compare(row, last) > 0)) {
                last = row;
            }
        }
        return last == null ? 0 : last.value;
    }

    private List<Integer> valuesOf(int node, Row sign) {
        List<Integer> values = new ArrayList<>();
        for (int key = 0; key < 4; key++) {
            values.add(valueOf(node, sign, key));
        }
        return values;
    }

    /** Each run: its first place, how many signs, the values. */
    private List<List<Integer>> runs(int node) {
        List<List<Integer>> runs = new ArrayList<>();
        List<Integer> before = null;
        int place = 0;
        for (Row sign : seen(node)) {
            List<Integer> values = valuesOf(node, sign);
            if (!values.equals(before)) {
                runs.add(new ArrayList<>(List.of(place, 0)));
                runs.get(runs.size() - 1).addAll(values);
            }
            List<Integer> run = runs.get(runs.size() - 1);
            run.set(1, run.get(1) + 1);
            before = values;
            place++;
        }
        return runs;
    }

    private int run(int node, int k, int what) {
        if (!isNode(node) || what < 0 || what > 5 || k < 0) {
            return NONE;
        }
        List<List<Integer>> runs = runs(node);
        return k < runs.size() ? runs.get(k).get(what) : NONE;
    }

    private int lies(int node, int number, int side) {
        Row row = byNumber(number);
        if (!isNode(node) || row == null || row.sort != 3 || side < 0 || side > 1 || !good(node, row)) {
            return NONE;
        }
        Map<Integer, Integer> index = indexes(node);
        int from = seenAheadOf(node, index.get(row.first));
        int to = seenAheadOf(node, index.get(row.second) + 1);
        return side == 0 ? from : Math.max(from, to);
    }

    private int seenAheadOf(int node, int place) {
        int count = 0;
        for (Row row : places(node).subList(0, place)) {
            if (isSeen(node, row)) {
                count++;
            }
        }
        return count;
    }

    private int kindOf(int node, int head) {
        Row last = null;
        for (Row row : rows) {
            if (row.sort == 4 && row.first == head && good(node, row) && (last == null || compare(row, last) > 0)) {
                last = row;
            }
        }
        return last == null ? 0 : last.detail;
    }

    private int paragraph(int node, int k, int what) {
        if (!isNode(node) || k < 0 || k >= heads(node).size() || what < 0 || what > 2) {
            return NONE;
        }
        if (what == 2) {
            return kindOf(node, heads(node).get(k));
        }
        StringBuilder text = new StringBuilder();
        for (Row row : seen(node)) {
            text.append(row.detail == 10 ? '\n' : '.');
        }
        String[] parts = text.toString().split("\n", -1);
        int start = 0;
        for (int i = 0; i < k; i++) {
            start += parts[i].length() + 1;
        }
        return what == 0 ? start : parts[k].length();
    }

    private int row(int number, int what) {
        Row row = byNumber(number);
        if (row == null || what < 0 || what > 6) {
            return NONE;
        }
        return new int[] {row.sort, row.node, row.time, row.detail, row.value, row.first, row.second}[what];
    }

    /** All that alike() compares. */
    private String picture(int node) {
        StringBuilder all = new StringBuilder();
        for (Row sign : seen(node)) {
            all.append(sign.detail).append(valuesOf(node, sign)).append(' ');
        }
        for (Row row : rows) {
            if (row.sort == 3 && good(node, row)) {
                all.append('c').append(row.number).append(':').append(lies(node, row.number, 0));
                all.append('-').append(lies(node, row.number, 1)).append(' ');
            }
        }
        for (int head : heads(node)) {
            all.append('k').append(kindOf(node, head)).append(' ');
        }
        return all.toString();
    }

    private int total(int node, int what) {
        if (!isNode(node)) {
            return NONE;
        }
        return switch (what) {
            case 0 -> seen(node).size();
            case 1 -> units(node).size();
            case 2 -> runs(node).size();
            case 3 -> heads(node).size();
            case 4 -> places(node).size();
            case 5 -> known.get(node).size();
            case 6 -> times[node];
            default -> NONE;
        };
    }
}
