import java.util.ArrayDeque;
import java.util.ArrayList;
import java.util.Arrays;
import java.util.Deque;
import java.util.HashSet;
import java.util.List;
import java.util.NoSuchElementException;
import java.util.Set;
import java.util.TreeSet;
import java.util.function.BinaryOperator;
import java.util.regex.Matcher;
import java.util.regex.Pattern;

/**
 * The document a second time, as literally as it can be written and without a thought for speed: sets of pixels are
 * split and sets of coefficients joined, children are looked for, and texts are taken apart by patterns.
 */
final class Model {

    private static final String PLACE = "[a-p][A-P]";
    private static final String ITEM = "(r" + PLACE + PLACE + "=[0-9a-f][0-9a-f]|[mu]" + PLACE + PLACE + "|[tlb][0-9])";
    private static final Pattern TEXT = Pattern.compile(ITEM + "(;" + ITEM + ")*");

    /** All that can be undone. */
    private static final class State {
        int columns = 8;
        int rows = 8;
        int side = 4;
        int levels = 2;
        int boost = 0;
        int[][] values = new int[8][8];
        boolean[][] mask = new boolean[8][8];

        State copy() {
            State copy = new State();
            copy.columns = columns;
            copy.rows = rows;
            copy.side = side;
            copy.levels = levels;
            copy.boost = boost;
            copy.values = new int[rows][];
            copy.mask = new boolean[rows][];
            for (int row = 0; row < rows; row++) {
                copy.values[row] = values[row].clone();
                copy.mask[row] = mask[row].clone();
            }
            return copy;
        }
    }

    /** A coefficient of a tile. */
    private static final class Coefficient {
        int column;
        int row;
        int level;
        String kind = "smooth";
        int bandColumn;
        int bandRow;
        int number;
        boolean isMasked;
    }

    private State state = new State();
    private State saved = null;
    private final Deque<State> changes = new ArrayDeque<>();
    private int[] plan = null;
    private String input = "";
    private Integer fault = null;
    private int[] refusal = null;

    private void changing() {
        changes.addLast(state.copy());
        if (changes.size() > 8) {
            changes.removeFirst();
        }
    }

    // ---- image and settings

    int size(int columns, int rows) {
        argument(columns >= 2 && columns <= 16 && rows >= 2 && rows <= 16);
        changing();
        state.columns = columns;
        state.rows = rows;
        state.values = new int[rows][columns];
        state.mask = new boolean[rows][columns];
        return tiles().size();
    }

    int setting(int what, int value) {
        argument(what >= 0 && what <= 2 && inRange(what, value));
        int previous = number(what + 2);
        changing();
        apply(what, value);
        return previous;
    }

    private static boolean inRange(int what, int value) {
        return List.of(List.of(2, 4, 8), List.of(0, 1, 2, 3), List.of(0, 1, 2, 3, 4, 5, 6, 7, 8)).get(what)
                .contains(value);
    }

    private void apply(int what, int value) {
        if (what == 0) {
            state.side = value;
        } else if (what == 1) {
            state.levels = value;
        } else {
            state.boost = value;
        }
    }

    int number(int what) {
        argument(what >= 0 && what <= 9);
        int masked = 0;
        int sum = 0;
        for (int row = 0; row < state.rows; row++) {
            for (int column = 0; column < state.columns; column++) {
                masked += state.mask[row][column] ? 1 : 0;
                sum += state.values[row][column];
            }
        }
        return new int[] {state.columns, state.rows, state.side, state.levels, state.boost, tiles().size(), masked,
            sum, changes.size(), input.length()}[what];
    }

    int set(int column, int row, int value) {
        int previous = pixel(column, row);
        argument(value >= 0 && value <= 255);
        changing();
        state.values[row][column] = value;
        return previous;
    }

    int pixel(int column, int row) {
        index(inImage(column, row));
        return state.values[row][column];
    }

    private boolean inImage(int column, int row) {
        return column >= 0 && column < state.columns && row >= 0 && row < state.rows;
    }

    int fill(int left, int top, int right, int bottom, int value) {
        index(inImage(left, top) && inImage(right, bottom));
        argument(left <= right && top <= bottom);
        argument(value >= 0 && value <= 255);
        changing();
        return rectangle(left, top, right, bottom, value);
    }

    private int rectangle(int left, int top, int right, int bottom, int value) {
        int different = 0;
        for (int row = top; row <= bottom; row++) {
            for (int column = left; column <= right; column++) {
                different += state.values[row][column] == value ? 0 : 1;
                state.values[row][column] = value;
            }
        }
        return different;
    }

    int mask(int left, int top, int right, int bottom, boolean isIn) {
        index(inImage(left, top) && inImage(right, bottom));
        argument(left <= right && top <= bottom);
        changing();
        maskRectangle(left, top, right, bottom, isIn);
        return number(6);
    }

    private void maskRectangle(int left, int top, int right, int bottom, boolean isIn) {
        for (int row = top; row <= bottom; row++) {
            Arrays.fill(state.mask[row], left, right + 1, isIn);
        }
    }

    // ---- tiles and edits

    /** The tiles, each as left, top, columns, rows. */
    private List<int[]> tiles() {
        List<int[]> tiles = new ArrayList<>();
        for (int top = 0; top < state.rows; top += state.side) {
            for (int left = 0; left < state.columns; left += state.side) {
                tiles.add(new int[] {left, top, Math.min(state.side, state.columns - left),
                    Math.min(state.side, state.rows - top)});
            }
        }
        return tiles;
    }

    private int[] tileAt(int tile) {
        index(tile >= 0 && tile < tiles().size());
        return tiles().get(tile);
    }

    int tileOf(int column, int row) {
        index(inImage(column, row));
        List<int[]> tiles = tiles();
        for (int i = 0; i < tiles.size(); i++) {
            int[] t = tiles.get(i);
            if (column >= t[0] && column < t[0] + t[2] && row >= t[1] && row < t[1] + t[3]) {
                return i;
            }
        }
        throw new AssertionError();
    }

    int tile(int tile, int what) {
        int[] t = tileAt(tile);
        argument(what >= 0 && what <= 8);
        if (what < 4) {
            return t[what];
        }
        if (what == 4) {
            return areas(t).size() - 1;
        }
        int count = 0;
        for (Coefficient c : coefficients(t)) {
            boolean isIn = state.mask[t[1] + c.row][t[0] + c.column];
            int value = state.values[t[1] + c.row][t[0] + c.column];
            count += what == 5 && isIn || what == 6 && c.isMasked || what == 7 && c.number != 0 ? 1 : 0;
            count += what == 8 ? value : 0;
        }
        return count;
    }

    int raise(int tile, int by) {
        int[] t = tileAt(tile);
        argument(by >= -255 && by <= 255);
        TreeSet<Integer> below = new TreeSet<>();
        TreeSet<Integer> above = new TreeSet<>();
        for (Coefficient c : coefficients(t)) {
            int value = state.values[t[1] + c.row][t[0] + c.column] + by;
            int pixel = (t[1] + c.row) * state.columns + t[0] + c.column;
            if (value < 0) {
                below.add(pixel);
            }
            if (value > 255) {
                above.add(pixel);
            }
        }
        if (!below.isEmpty()) {
            refuse(4, below.first());
        }
        if (!above.isEmpty()) {
            refuse(5, above.first());
        }
        changing();
        for (Coefficient c : coefficients(t)) {
            state.values[t[1] + c.row][t[0] + c.column] += by;
        }
        return tile(tile, 8);
    }

    private void refuse(int reason, int number) {
        refusal = new int[] {reason, number};
        throw new UnsupportedOperationException();
    }

    int swap(int tile, int other) {
        int[] t = tileAt(tile);
        int[] o = tileAt(other);
        if (t[2] != o[2] || t[3] != o[3]) {
            refuse(6, 0);
        }
        changing();
        State before = state.copy();
        int different = 0;
        for (int row = 0; row < t[3]; row++) {
            for (int column = 0; column < t[2]; column++) {
                int mine = before.values[t[1] + row][t[0] + column];
                int its = before.values[o[1] + row][o[0] + column];
                state.values[t[1] + row][t[0] + column] = its;
                state.values[o[1] + row][o[0] + column] = mine;
                different += mine == its ? 0 : 1;
            }
        }
        return different;
    }

    int soften(int tile, int layers) {
        int[] t = tileAt(tile);
        argument(layers >= 0 && layers <= 9);
        int[][] decoded = decode(t, layers);
        changing();
        int different = 0;
        for (int row = 0; row < t[3]; row++) {
            for (int column = 0; column < t[2]; column++) {
                different += state.values[t[1] + row][t[0] + column] == decoded[row][column] ? 0 : 1;
                state.values[t[1] + row][t[0] + column] = decoded[row][column];
            }
        }
        return different;
    }

    // ---- coefficients

    /** The areas of the low numbers: the whole tile, then that of each level that there is. */
    private List<int[]> areas(int[] t) {
        List<int[]> areas = new ArrayList<>();
        areas.add(new int[] {t[2], t[3]});
        for (int level = 1; level <= state.levels; level++) {
            int[] last = areas.get(level - 1);
            if (last[0] == 1 && last[1] == 1) {
                break;
            }
            areas.add(new int[] {last[0] - last[0] / 2, last[1] - last[1] / 2});
        }
        return areas;
    }

    private static <T> void splitRow(List<T> row, BinaryOperator<T> low, BinaryOperator<T> high) {
        List<T> lows = new ArrayList<>();
        List<T> highs = new ArrayList<>();
        for (int i = 0; 2 * i + 1 < row.size(); i++) {
            lows.add(low.apply(row.get(2 * i), row.get(2 * i + 1)));
            highs.add(high.apply(row.get(2 * i), row.get(2 * i + 1)));
        }
        if (row.size() % 2 == 1) {
            lows.add(row.get(row.size() - 1));
        }
        lows.addAll(highs);
        for (int i = 0; i < row.size(); i++) {
            row.set(i, lows.get(i));
        }
    }

    private static <T> void joinRow(List<T> row, BinaryOperator<T> former, BinaryOperator<T> latter) {
        int highs = row.size() / 2;
        int lows = row.size() - highs;
        List<T> joined = new ArrayList<>();
        for (int i = 0; i < lows; i++) {
            if (i < highs) {
                joined.add(former.apply(row.get(i), row.get(lows + i)));
                joined.add(latter.apply(row.get(i), row.get(lows + i)));
            } else {
                joined.add(row.get(i));
            }
        }
        for (int i = 0; i < row.size(); i++) {
            row.set(i, joined.get(i));
        }
    }

    private interface RowWork<T> {
        void on(List<T> row);
    }

    private static <T> void onRows(List<List<T>> grid, int[] area, RowWork<T> work) {
        for (int row = 0; row < area[1]; row++) {
            work.on(grid.get(row).subList(0, area[0]));
        }
    }

    private static <T> void onColumns(List<List<T>> grid, int[] area, RowWork<T> work) {
        for (int column = 0; column < area[0]; column++) {
            List<T> line = new ArrayList<>();
            for (int row = 0; row < area[1]; row++) {
                line.add(grid.get(row).get(column));
            }
            work.on(line);
            for (int row = 0; row < area[1]; row++) {
                grid.get(row).set(column, line.get(row));
            }
        }
    }

    private <T> void split(List<List<T>> grid, int[] t, BinaryOperator<T> low, BinaryOperator<T> high) {
        List<int[]> areas = areas(t);
        for (int level = 1; level < areas.size(); level++) {
            onRows(grid, areas.get(level - 1), row -> splitRow(row, low, high));
            onColumns(grid, areas.get(level - 1), row -> splitRow(row, low, high));
        }
    }

    private <T> void join(List<List<T>> grid, int[] t, BinaryOperator<T> former, BinaryOperator<T> latter) {
        List<int[]> areas = areas(t);
        for (int level = areas.size() - 1; level > 0; level--) {
            onColumns(grid, areas.get(level - 1), row -> joinRow(row, former, latter));
            onRows(grid, areas.get(level - 1), row -> joinRow(row, former, latter));
        }
    }

    private static <T> Set<T> union(Set<T> a, Set<T> b) {
        Set<T> both = new HashSet<>(a);
        both.addAll(b);
        return both;
    }

    private List<Coefficient> coefficients(int[] t) {
        List<List<Integer>> numbers = new ArrayList<>();
        List<List<Set<Integer>>> pixels = new ArrayList<>();
        for (int row = 0; row < t[3]; row++) {
            numbers.add(new ArrayList<>());
            pixels.add(new ArrayList<>());
            for (int column = 0; column < t[2]; column++) {
                numbers.get(row).add(state.values[t[1] + row][t[0] + column]);
                pixels.get(row).add(Set.of((t[1] + row) * 100 + t[0] + column));
            }
        }
        split(numbers, t, (a, b) -> Math.floorDiv(a + b, 2), (a, b) -> a - b);
        split(pixels, t, Model::union, Model::union);
        List<Coefficient> all = new ArrayList<>();
        for (int row = 0; row < t[3]; row++) {
            for (int column = 0; column < t[2]; column++) {
                Coefficient c = new Coefficient();
                c.column = column;
                c.row = row;
                c.number = numbers.get(row).get(column);
                for (int pixel : pixels.get(row).get(column)) {
                    c.isMasked |= state.mask[pixel / 100][pixel % 100];
                }
                placeInBand(c, areas(t));
                all.add(c);
            }
        }
        return all;
    }

    private static void placeInBand(Coefficient c, List<int[]> areas) {
        c.bandColumn = c.column;
        c.bandRow = c.row;
        for (int level = areas.size() - 1; level > 0; level--) {
            int[] low = areas.get(level);
            int[] whole = areas.get(level - 1);
            boolean isInside = c.column < whole[0] && c.row < whole[1];
            boolean isHighInRow = c.column >= low[0];
            boolean isHighInColumn = c.row >= low[1];
            if (isInside && (isHighInRow || isHighInColumn)) {
                c.level = level;
                c.kind = isHighInRow && isHighInColumn ? "cross" : isHighInRow ? "across" : "down";
                c.bandColumn = isHighInRow ? c.column - low[0] : c.column;
                c.bandRow = isHighInColumn ? c.row - low[1] : c.row;
            }
        }
    }

    private Coefficient find(int tile, int column, int row) {
        int[] t = tileAt(tile);
        index(column >= 0 && column < t[2] && row >= 0 && row < t[3]);
        return coefficients(t).get(row * t[2] + column);
    }

    int coefficient(int tile, int column, int row) {
        return find(tile, column, row).number;
    }

    int band(int tile, int column, int row) {
        Coefficient c = find(tile, column, row);
        return c.level == 0 ? 0 : 10 * c.level + List.of("smooth", "across", "down", "cross").indexOf(c.kind);
    }

    private int layer(Coefficient c, int plane) {
        return c.isMasked ? Math.max(8 - plane - state.boost, 0) : 8 - plane;
    }

    int layerOf(int tile, int column, int row, int plane) {
        Coefficient c = find(tile, column, row);
        argument(plane >= 0 && plane <= 8);
        return layer(c, plane);
    }

    int bits(int tile, int layer) {
        int[] t = tileAt(tile);
        argument(layer >= -1 && layer <= 8);
        int bits = 0;
        for (Coefficient c : coefficients(t)) {
            String binary = Integer.toBinaryString(Math.abs(c.number));
            int highest = c.number == 0 ? -1 : binary.length() - 1;
            for (int plane = 0; plane < 9; plane++) {
                if (layer == -1 || layer(c, plane) == layer) {
                    bits += plane == highest ? 2 : 1;
                }
            }
        }
        return bits;
    }

    private List<Coefficient> children(Coefficient parent, List<Coefficient> all, int lastLevel) {
        List<Coefficient> children = new ArrayList<>();
        for (Coefficient c : all) {
            boolean isBelow = parent.level > 1 && c.level == parent.level - 1 && c.kind.equals(parent.kind)
                    && (c.bandColumn == 2 * parent.bandColumn || c.bandColumn == 2 * parent.bandColumn + 1)
                    && (c.bandRow == 2 * parent.bandRow || c.bandRow == 2 * parent.bandRow + 1);
            boolean isBeside = parent.level == 0 && lastLevel > 0 && c.level == lastLevel
                    && c.bandColumn == parent.bandColumn && c.bandRow == parent.bandRow;
            if (isBelow || isBeside) {
                children.add(c);
            }
        }
        return children;
    }

    private List<Coefficient> allBelow(Coefficient parent, List<Coefficient> all, int lastLevel) {
        List<Coefficient> below = new ArrayList<>();
        for (Coefficient child : children(parent, all, lastLevel)) {
            below.add(child);
            below.addAll(allBelow(child, all, lastLevel));
        }
        return below;
    }

    int descendants(int tile, int column, int row) {
        find(tile, column, row);
        int[] t = tileAt(tile);
        List<Coefficient> all = coefficients(t);
        return allBelow(all.get(row * t[2] + column), all, areas(t).size() - 1).size();
    }

    int roots(int tile, int plane) {
        int[] t = tileAt(tile);
        argument(plane >= 0 && plane <= 9);
        List<Coefficient> all = coefficients(t);
        int lastLevel = areas(t).size() - 1;
        Set<Coefficient> quiet = new HashSet<>();
        Set<Coefficient> ofQuiet = new HashSet<>();
        for (Coefficient c : all) {
            boolean isQuiet = Math.abs(c.number) < 1 << plane;
            for (Coefficient below : allBelow(c, all, lastLevel)) {
                isQuiet &= Math.abs(below.number) < 1 << plane;
            }
            if (isQuiet) {
                quiet.add(c);
                ofQuiet.addAll(children(c, all, lastLevel));
            }
        }
        quiet.removeAll(ofQuiet);
        return quiet.size();
    }

    int needed(int column, int row) {
        int[] t = tileAt(tileOf(column, row));
        List<List<Set<Integer>>> grid = new ArrayList<>();
        for (int r = 0; r < t[3]; r++) {
            grid.add(new ArrayList<>());
            for (int c = 0; c < t[2]; c++) {
                grid.get(r).add(Set.of(r * 100 + c));
            }
        }
        join(grid, t, Model::union, Model::union);
        return grid.get(row - t[1]).get(column - t[0]).size();
    }

    // ---- decoding and plans

    private int[][] decode(int[] t, int layers) {
        List<List<Integer>> grid = new ArrayList<>();
        for (int row = 0; row < t[3]; row++) {
            grid.add(new ArrayList<>());
        }
        for (Coefficient c : coefficients(t)) {
            int amount = 0;
            for (int plane = 0; plane < 9; plane++) {
                if (layer(c, plane) < layers) {
                    amount += Math.abs(c.number) & 1 << plane;
                }
            }
            grid.get(c.row).add(c.number < 0 ? -amount : amount);
        }
        join(grid, t, (low, high) -> low + Math.floorDiv(high + 1, 2),
                (low, high) -> low + Math.floorDiv(high + 1, 2) - high);
        return cut(grid, t);
    }

    private static int[][] cut(List<List<Integer>> grid, int[] t) {
        int[][] result = new int[t[3]][t[2]];
        for (int row = 0; row < t[3]; row++) {
            for (int column = 0; column < t[2]; column++) {
                result[row][column] = Math.min(255, Math.max(0, grid.get(row).get(column)));
            }
        }
        return result;
    }

    int decoded(int layers, int column, int row) {
        argument(layers >= 0 && layers <= 9);
        int[] t = tileAt(tileOf(column, row));
        return decode(t, layers)[row - t[1]][column - t[0]];
    }

    private List<Integer> differences(int[] t, int layers) {
        List<Integer> differences = new ArrayList<>();
        int[][] decoded = decode(t, layers);
        for (int row = 0; row < t[3]; row++) {
            for (int column = 0; column < t[2]; column++) {
                differences.add(Math.abs(decoded[row][column] - state.values[t[1] + row][t[0] + column]));
            }
        }
        return differences;
    }

    int worst(int layers, int tile, boolean isBound) {
        argument(layers >= 0 && layers <= 9);
        int[] t = tileAt(tile);
        if (!isBound) {
            return java.util.Collections.max(differences(t, layers));
        }
        List<List<Integer>> doubts = new ArrayList<>();
        for (int row = 0; row < t[3]; row++) {
            doubts.add(new ArrayList<>());
        }
        for (Coefficient c : coefficients(t)) {
            int doubt = 1;
            for (int plane = 0; plane < 9; plane++) {
                doubt *= layer(c, plane) >= layers ? 2 : 1;
            }
            doubts.get(c.row).add(doubt - 1);
        }
        BinaryOperator<Integer> both = (low, high) -> low + high / 2 + high % 2;
        join(doubts, t, both, both);
        int greatest = 0;
        for (List<Integer> row : doubts) {
            greatest = Math.max(greatest, java.util.Collections.max(row));
        }
        return Math.min(255, greatest);
    }

    double meanSquare(int layers) {
        argument(layers >= 0 && layers <= 9);
        long sum = 0;
        for (int[] t : tiles()) {
            for (int difference : differences(t, layers)) {
                sum += (long) difference * difference;
            }
        }
        return (double) sum / (double) (state.columns * state.rows);
    }

    int plan(int budget) {
        argument(budget >= 0 && budget <= 9999);
        int count = tiles().size();
        int[] given = new int[count];
        int[][] worsts = new int[count][10];
        int[][] costs = new int[count][9];
        for (int tile = 0; tile < count; tile++) {
            for (int layers = 0; layers <= 9; layers++) {
                worsts[tile][layers] = worst(layers, tile, false);
                if (layers < 9) {
                    costs[tile][layers] = bits(tile, layers);
                }
            }
        }
        int left = budget;
        while (true) {
            int best = -1;
            for (int tile = count - 1; tile >= 0; tile--) {
                int has = given[tile];
                if (has < 9 && worsts[tile][has] > 0 && costs[tile][has] <= left
                        && (best < 0 || worsts[tile][has] >= worsts[best][given[best]])) {
                    best = tile;
                }
            }
            if (best < 0) {
                break;
            }
            left -= costs[best][given[best]];
            given[best]++;
        }
        plan = given;
        return left;
    }

    int planned(int tile) {
        element(plan != null);
        index(tile >= 0 && tile < plan.length);
        return plan[tile];
    }

    // ---- texts

    int feed(char character) {
        state(input.length() < 60);
        input += character;
        return input.length();
    }

    int read() {
        String text = input;
        input = "";
        if (!TEXT.matcher(text).matches()) {
            fault = faultOf(text);
            throw new IllegalArgumentException();
        }
        String[] items = text.split(";");
        for (int i = 0; i < items.length; i++) {
            int reason = reasonAgainst(items[i]);
            if (reason != 0) {
                refuse(reason, i);
            }
        }
        changing();
        for (String item : items) {
            carryOut(item);
        }
        return items.length;
    }

    /** The length of the longest beginning that can continue to a text. */
    private static int faultOf(String text) {
        for (int length = text.length(); length > 0; length--) {
            Matcher matcher = TEXT.matcher(text.substring(0, length));
            if (matcher.matches() || matcher.hitEnd()) {
                return length;
            }
        }
        return 0;
    }

    private int reasonAgainst(String item) {
        int what = "tlb".indexOf(item.charAt(0));
        if (what >= 0) {
            return inRange(what, item.charAt(1) - '0') ? 0 : 3;
        }
        int[] c = corners(item);
        if (!inImage(c[0], c[1]) || !inImage(c[2], c[3])) {
            return 1;
        }
        return c[0] > c[2] || c[1] > c[3] ? 2 : 0;
    }

    private static int[] corners(String item) {
        return new int[] {item.charAt(1) - 'a', item.charAt(2) - 'A', item.charAt(3) - 'a', item.charAt(4) - 'A'};
    }

    private void carryOut(String item) {
        int what = "tlb".indexOf(item.charAt(0));
        if (what >= 0) {
            apply(what, item.charAt(1) - '0');
            return;
        }
        int[] c = corners(item);
        if (item.startsWith("r")) {
            rectangle(c[0], c[1], c[2], c[3], Integer.parseInt(item.substring(6), 16));
        } else {
            maskRectangle(c[0], c[1], c[2], c[3], item.startsWith("m"));
        }
    }

    int faultPosition() {
        element(fault != null);
        return fault;
    }

    int refusal(boolean isReason) {
        element(refusal != null);
        return refusal[isReason ? 0 : 1];
    }

    // ---- undo, snapshots

    int undo() {
        state(!changes.isEmpty());
        state = changes.removeLast();
        return changes.size();
    }

    int saveSnapshot() {
        saved = state.copy();
        return tiles().size();
    }

    int restoreSnapshot() {
        state(saved != null);
        state = saved.copy();
        changes.clear();
        return tiles().size();
    }

    private static void argument(boolean isRight) {
        if (!isRight) {
            throw new IllegalArgumentException();
        }
    }

    private static void index(boolean isRight) {
        if (!isRight) {
            throw new IndexOutOfBoundsException();
        }
    }

    private static void element(boolean isRight) {
        if (!isRight) {
            throw new NoSuchElementException();
        }
    }

    private static void state(boolean isRight) {
        if (!isRight) {
            throw new IllegalStateException();
        }
    }
}
