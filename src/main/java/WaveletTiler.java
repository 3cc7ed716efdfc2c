import java.util.NoSuchElementException;

/**
 * A progressive tiler of images. The numbered promises of the document tell what each public method does;
 * README.md tells how to use the class.
 */
public final class WaveletTiler {

    private static final int LEAST_LENGTH = 2;
    private static final int MOST_LENGTH = 16;
    private static final int PIXELS = 256;
    private static final int MOST_VALUE = 255;

    private static final int SIDE = 0;
    private static final int LEVELS = 1;
    private static final int BOOST = 2;
    private static final int MOST_LEVELS = 3;
    private static final int MOST_BOOST = 8;

    private static final int WIDEST_TILE = 8;
    private static final int PLACES = 64;
    private static final int MOST_TILES = 64;
    private static final int NONE = -1;

    private static final int LAYERS = 9;
    private static final int PLANES = 9;
    private static final int ALL_LAYERS = -1;
    private static final int MOST_BUDGET = 9999;

    private static final int MOST_SIGNS = 60;
    private static final int MOST_ITEMS = 20;
    private static final int UNDOABLE = 8;

    private static final int NOT_IN_IMAGE = 1;
    private static final int CORNERS_TURNED = 2;
    private static final int SETTING_OUT_OF_RANGE = 3;
    private static final int BELOW_RANGE = 4;
    private static final int ABOVE_RANGE = 5;
    private static final int SIZES_DIFFER = 6;

    private final Picture picture;
    private final Picture snapshot;
    private boolean hasSnapshot;
    private final History history;
    private final Tile work;
    private final Plan latestPlan;
    private final Script input;
    private int keptFault;
    private int keptReason;
    private int keptNumber;

    public WaveletTiler() {
        picture = new Picture();
        snapshot = new Picture();
        hasSnapshot = false;
        history = new History();
        work = new Tile();
        latestPlan = new Plan();
        input = new Script();
        keptFault = NONE;
        keptReason = NONE;
        keptNumber = 0;
    }

    // ---- image and settings

    public int size(int columns, int rows) throws IllegalArgumentException {
        if (!isBetween(columns, LEAST_LENGTH, MOST_LENGTH) || !isBetween(rows, LEAST_LENGTH, MOST_LENGTH)) {
            throw new IllegalArgumentException("columns and rows are 2 to 16");
        }
        history.keep(picture);
        picture.clear(columns, rows);
        return picture.tileTotal();
    }

    public int setting(int what, int value) throws IllegalArgumentException {
        if (!isSettable(what, value)) {
            throw new IllegalArgumentException("there is no such setting, or the number is out of range");
        }
        int previous = picture.chosen(what);
        history.keep(picture);
        picture.choose(what, value);
        return previous;
    }

    public int number(int what) throws IllegalArgumentException {
        switch (what) {
            case 0:
                return picture.columns;
            case 1:
                return picture.rows;
            case 2:
                return picture.side;
            case 3:
                return picture.levels;
            case 4:
                return picture.boost;
            case 5:
                return picture.tileTotal();
            case 6:
                return picture.total(picture.masked);
            case 7:
                return picture.total(picture.values);
            case 8:
                return history.kept;
            case 9:
                return input.length;
            default:
                throw new IllegalArgumentException("there is no such number");
        }
    }

    public int set(int column, int row, int value) throws IndexOutOfBoundsException, IllegalArgumentException {
        if (!picture.has(column, row)) {
            throw new IndexOutOfBoundsException("there is no such pixel");
        }
        if (!isBetween(value, 0, MOST_VALUE)) {
            throw new IllegalArgumentException("a value is 0 to 255");
        }
        int place = picture.indexOf(column, row);
        int previous = at(picture.values, place);
        history.keep(picture);
        put(picture.values, place, value);
        return previous;
    }

    public int pixel(int column, int row) throws IndexOutOfBoundsException {
        if (!picture.has(column, row)) {
            throw new IndexOutOfBoundsException("there is no such pixel");
        }
        return at(picture.values, picture.indexOf(column, row));
    }

    public int fill(int left, int top, int right, int bottom, int value)
            throws IndexOutOfBoundsException, IllegalArgumentException {
        if (!picture.has(left, top) || !picture.has(right, bottom)) {
            throw new IndexOutOfBoundsException("a corner is not in the image");
        }
        if (left > right || top > bottom) {
            throw new IllegalArgumentException("the first corner is behind the last one");
        }
        if (!isBetween(value, 0, MOST_VALUE)) {
            throw new IllegalArgumentException("a value is 0 to 255");
        }
        history.keep(picture);
        return picture.paint(picture.values, left, top, right, bottom, value);
    }

    public int mask(int left, int top, int right, int bottom, boolean isIn)
            throws IndexOutOfBoundsException, IllegalArgumentException {
        if (!picture.has(left, top) || !picture.has(right, bottom)) {
            throw new IndexOutOfBoundsException("a corner is not in the image");
        }
        if (left > right || top > bottom) {
            throw new IllegalArgumentException("the first corner is behind the last one");
        }
        history.keep(picture);
        picture.paint(picture.masked, left, top, right, bottom, isIn ? 1 : 0);
        return picture.total(picture.masked);
    }

    // ---- tiles and edits

    public int tileOf(int column, int row) throws IndexOutOfBoundsException {
        if (!picture.has(column, row)) {
            throw new IndexOutOfBoundsException("there is no such pixel");
        }
        return picture.tileAt(column, row);
    }

    public int tile(int tile, int what) throws IndexOutOfBoundsException, IllegalArgumentException {
        if (!picture.hasTile(tile)) {
            throw new IndexOutOfBoundsException("there is no such tile");
        }
        work.load(picture, tile);
        switch (what) {
            case 0:
                return work.left;
            case 1:
                return work.top;
            case 2:
                return work.width;
            case 3:
                return work.height;
            case 4:
                return work.depth;
            case 5:
                return picture.totalIn(picture.masked, tile);
            case 6:
                return work.countOther(work.masked);
            case 7:
                return work.countOther(work.coefficients);
            case 8:
                return picture.totalIn(picture.values, tile);
            default:
                throw new IllegalArgumentException("there is no such number about a tile");
        }
    }

    public int raise(int tile, int by)
            throws IndexOutOfBoundsException, IllegalArgumentException, UnsupportedOperationException {
        if (!picture.hasTile(tile)) {
            throw new IndexOutOfBoundsException("there is no such tile");
        }
        if (!isBetween(by, -MOST_VALUE, MOST_VALUE)) {
            throw new IllegalArgumentException("the number is -255 to 255");
        }
        int hurt = picture.firstHurt(tile, by);
        if (hurt >= 0) {
            refuse(by < 0 ? BELOW_RANGE : ABOVE_RANGE, hurt);
            throw new UnsupportedOperationException("a value would be out of range");
        }
        history.keep(picture);
        picture.add(tile, by);
        return picture.totalIn(picture.values, tile);
    }

    public int swap(int tile, int other) throws IndexOutOfBoundsException, UnsupportedOperationException {
        if (!picture.hasTile(tile) || !picture.hasTile(other)) {
            throw new IndexOutOfBoundsException("there is no such tile");
        }
        if (picture.widthOf(tile) != picture.widthOf(other) || picture.heightOf(tile) != picture.heightOf(other)) {
            refuse(SIZES_DIFFER, 0);
            throw new UnsupportedOperationException("the tiles have different sizes");
        }
        history.keep(picture);
        return picture.exchange(tile, other);
    }

    public int soften(int tile, int layers) throws IndexOutOfBoundsException, IllegalArgumentException {
        if (!picture.hasTile(tile)) {
            throw new IndexOutOfBoundsException("there is no such tile");
        }
        if (!isBetween(layers, 0, LAYERS)) {
            throw new IllegalArgumentException("the layers are 0 to 9");
        }
        work.load(picture, tile);
        work.decode(layers);
        history.keep(picture);
        return work.storeDecoded(picture);
    }

    // ---- coefficients

    public int coefficient(int tile, int column, int row) throws IndexOutOfBoundsException {
        if (!hasPlace(tile, column, row)) {
            throw new IndexOutOfBoundsException("there is no such tile or place");
        }
        work.load(picture, tile);
        return at(work.coefficients, placeOf(column, row));
    }

    public int band(int tile, int column, int row) throws IndexOutOfBoundsException {
        if (!hasPlace(tile, column, row)) {
            throw new IndexOutOfBoundsException("there is no such tile or place");
        }
        work.load(picture, tile);
        return at(work.bands, placeOf(column, row));
    }

    public int layerOf(int tile, int column, int row, int plane)
            throws IndexOutOfBoundsException, IllegalArgumentException {
        if (!hasPlace(tile, column, row)) {
            throw new IndexOutOfBoundsException("there is no such tile or place");
        }
        if (!isBetween(plane, 0, PLANES - 1)) {
            throw new IllegalArgumentException("the plane is 0 to 8");
        }
        work.load(picture, tile);
        return work.layerAt(placeOf(column, row), plane);
    }

    public int bits(int tile, int layer) throws IndexOutOfBoundsException, IllegalArgumentException {
        if (!picture.hasTile(tile)) {
            throw new IndexOutOfBoundsException("there is no such tile");
        }
        if (!isBetween(layer, ALL_LAYERS, LAYERS - 1)) {
            throw new IllegalArgumentException("the layer is -1 to 8");
        }
        work.load(picture, tile);
        return work.bitTotal(layer);
    }

    public int descendants(int tile, int column, int row) throws IndexOutOfBoundsException {
        if (!hasPlace(tile, column, row)) {
            throw new IndexOutOfBoundsException("there is no such tile or place");
        }
        work.load(picture, tile);
        return work.countBelow(placeOf(column, row));
    }

    public int roots(int tile, int plane) throws IndexOutOfBoundsException, IllegalArgumentException {
        if (!picture.hasTile(tile)) {
            throw new IndexOutOfBoundsException("there is no such tile");
        }
        if (!isBetween(plane, 0, PLANES)) {
            throw new IllegalArgumentException("the plane is 0 to 9");
        }
        work.load(picture, tile);
        return work.countRoots(plane);
    }

    public int needed(int column, int row) throws IndexOutOfBoundsException {
        if (!picture.has(column, row)) {
            throw new IndexOutOfBoundsException("there is no such pixel");
        }
        work.load(picture, picture.tileAt(column, row));
        return work.countJoined(column - work.left, row - work.top);
    }

    // ---- decoding and plans

    public int decoded(int layers, int column, int row) throws IllegalArgumentException, IndexOutOfBoundsException {
        if (!isBetween(layers, 0, LAYERS)) {
            throw new IllegalArgumentException("the layers are 0 to 9");
        }
        if (!picture.has(column, row)) {
            throw new IndexOutOfBoundsException("there is no such pixel");
        }
        work.load(picture, picture.tileAt(column, row));
        work.decode(layers);
        return at(work.joined, placeOf(column - work.left, row - work.top));
    }

    public int worst(int layers, int tile, boolean isBound)
            throws IllegalArgumentException, IndexOutOfBoundsException {
        if (!isBetween(layers, 0, LAYERS)) {
            throw new IllegalArgumentException("the layers are 0 to 9");
        }
        if (!picture.hasTile(tile)) {
            throw new IndexOutOfBoundsException("there is no such tile");
        }
        work.load(picture, tile);
        return isBound ? work.greatestDoubt(layers) : work.greatestDifference(layers);
    }

    public double meanSquare(int layers) throws IllegalArgumentException {
        if (!isBetween(layers, 0, LAYERS)) {
            throw new IllegalArgumentException("the layers are 0 to 9");
        }
        int sum = 0;
        int tiles = picture.tileTotal();
        for (int tile = 0; tile < tiles; tile++) {
            work.load(picture, tile);
            sum += work.sumOfSquares(layers);
        }
        int pixels = picture.columns * picture.rows;
        return pixels < 1 ? 0.0 : (double) sum / (double) pixels;
    }

    public int plan(int budget) throws IllegalArgumentException {
        if (!isBetween(budget, 0, MOST_BUDGET)) {
            throw new IllegalArgumentException("the budget is 0 to 9999");
        }
        latestPlan.start(picture.tileTotal());
        for (int tile = 0; tile < latestPlan.tiles; tile++) {
            weigh(tile);
        }
        int left = budget;
        for (int step = 0; step < MOST_TILES * LAYERS; step++) {
            int best = latestPlan.nextTile(left);
            if (best < 0) {
                break;
            }
            left -= at(latestPlan.costs, best);
            put(latestPlan.layers, best, at(latestPlan.layers, best) + 1);
            weigh(best);
        }
        return left;
    }

    public int planned(int tile) throws NoSuchElementException, IndexOutOfBoundsException {
        if (latestPlan.tiles < 0) {
            throw new NoSuchElementException("there is no plan");
        }
        if (!isBetween(tile, 0, latestPlan.tiles - 1)) {
            throw new IndexOutOfBoundsException("there was no such tile");
        }
        return at(latestPlan.layers, tile);
    }

    // ---- texts

    public int feed(char character) throws IllegalStateException {
        if (input.length >= MOST_SIGNS) {
            throw new IllegalStateException("the input has 60 characters");
        }
        input.append(character);
        return input.length;
    }

    public int read() throws IllegalArgumentException, UnsupportedOperationException {
        int fault = input.faultOffset();
        if (fault >= 0) {
            input.length = 0;
            keptFault = fault;
            throw new IllegalArgumentException("the input is no text");
        }
        for (int item = 0; item < input.items; item++) {
            int reason = input.reasonAgainst(item, picture);
            if (reason >= 0) {
                input.length = 0;
                refuse(reason, item);
                throw new UnsupportedOperationException("an item is refused");
            }
        }
        history.keep(picture);
        for (int item = 0; item < input.items; item++) {
            input.carryOut(item, picture);
        }
        input.length = 0;
        return input.items;
    }

    public int faultPosition() throws NoSuchElementException {
        if (keptFault < 0) {
            throw new NoSuchElementException("no fault position was kept");
        }
        return keptFault;
    }

    public int refusal(boolean isReason) throws NoSuchElementException {
        if (keptReason < 0) {
            throw new NoSuchElementException("nothing was refused");
        }
        return isReason ? keptReason : keptNumber;
    }

    // ---- undo, snapshots

    public int undo() throws IllegalStateException {
        if (history.kept < 1) {
            throw new IllegalStateException("there is nothing to undo");
        }
        history.takeBack(picture);
        return history.kept;
    }

    public int saveSnapshot() {
        snapshot.copy(picture);
        hasSnapshot = true;
        return picture.tileTotal();
    }

    public int restoreSnapshot() throws IllegalStateException {
        if (!hasSnapshot) {
            throw new IllegalStateException("there is no snapshot");
        }
        picture.copy(snapshot);
        history.kept = 0;
        return picture.tileTotal();
    }

    // ---- parts that several methods share

    private void refuse(int reason, int number) {
        keptReason = reason;
        keptNumber = number;
    }

    private boolean hasPlace(int tile, int column, int row) {
        return picture.hasTile(tile)
                && isBetween(column, 0, picture.widthOf(tile) - 1)
                && isBetween(row, 0, picture.heightOf(tile) - 1);
    }

    // A tile's difference and cost change only when it gets a layer, so a plan keeps them between its steps.
    private void weigh(int tile) {
        work.load(picture, tile);
        int layers = at(latestPlan.layers, tile);
        put(latestPlan.differences, tile, work.greatestDifference(layers));
        put(latestPlan.costs, tile, work.bitTotal(layers));
    }

    private static boolean isBetween(int number, int least, int most) {
        return number >= least && number <= most;
    }

    private static boolean isSettable(int what, int value) {
        switch (what) {
            case SIDE:
                return value == 2 || value == 4 || value == 8;
            case LEVELS:
                return isBetween(value, 0, MOST_LEVELS);
            case BOOST:
                return isBetween(value, 0, MOST_BOOST);
            default:
                return false;
        }
    }

    // All rows of numbers are read and written by these two, so that no index makes the machine throw.
    private static int at(int[] numbers, int index) {
        return numbers != null && index >= 0 && index < numbers.length ? numbers[index] : 0;
    }

    private static void put(int[] numbers, int index, int number) {
        if (numbers != null && index >= 0 && index < numbers.length) {
            numbers[index] = number;
        }
    }

    // A divisor of 0 cannot come up while a side is 2, 4 or 8; the test keeps the machine from throwing.
    private static int quotient(int number, int divisor) {
        return divisor < 1 ? 0 : number / divisor;
    }

    // Places in a tile are numbered as if it had the widest side, so that a place keeps its number.
    private static int placeOf(int column, int row) {
        return row * WIDEST_TILE + column;
    }

    private static int amountOf(int number) {
        return number < 0 ? -number : number;
    }

    /** All that undo and snapshots bring back: the values, the mask and the settings. */
    private static final class Picture {
        private int columns;
        private int rows;
        private int side;
        private int levels;
        private int boost;
        private final int[] values;
        private final int[] masked;

        private Picture() {
            columns = 8;
            rows = 8;
            side = 4;
            levels = 2;
            boost = 0;
            values = new int[PIXELS];
            masked = new int[PIXELS];
        }

        private void copy(Picture other) {
            columns = other.columns;
            rows = other.rows;
            side = other.side;
            levels = other.levels;
            boost = other.boost;
            for (int i = 0; i < PIXELS; i++) {
                put(values, i, at(other.values, i));
                put(masked, i, at(other.masked, i));
            }
        }

        private void clear(int newColumns, int newRows) {
            columns = newColumns;
            rows = newRows;
            for (int i = 0; i < PIXELS; i++) {
                put(values, i, 0);
                put(masked, i, 0);
            }
        }

        private int chosen(int what) {
            switch (what) {
                case SIDE:
                    return side;
                case LEVELS:
                    return levels;
                default:
                    return boost;
            }
        }

        private void choose(int what, int value) {
            switch (what) {
                case SIDE:
                    side = value;
                    break;
                case LEVELS:
                    levels = value;
                    break;
                default:
                    boost = value;
                    break;
            }
        }

        private boolean has(int column, int row) {
            return isBetween(column, 0, columns - 1) && isBetween(row, 0, rows - 1);
        }

        private int indexOf(int column, int row) {
            return row * columns + column;
        }

        private int total(int[] numbers) {
            int sum = 0;
            for (int i = 0; i < columns * rows; i++) {
                sum += at(numbers, i);
            }
            return sum;
        }

        private int paint(int[] numbers, int left, int top, int right, int bottom, int number) {
            int changed = 0;
            for (int row = top; row <= bottom; row++) {
                for (int column = left; column <= right; column++) {
                    int place = indexOf(column, row);
                    if (at(numbers, place) != number) {
                        changed++;
                    }
                    put(numbers, place, number);
                }
            }
            return changed;
        }

        private int tilesAcross() {
            return quotient(columns + side - 1, side);
        }

        private int tileTotal() {
            return tilesAcross() * quotient(rows + side - 1, side);
        }

        private boolean hasTile(int tile) {
            return isBetween(tile, 0, tileTotal() - 1);
        }

        private int tileAt(int column, int row) {
            return quotient(row, side) * tilesAcross() + quotient(column, side);
        }

        private int leftOf(int tile) {
            int across = tilesAcross();
            return (tile - quotient(tile, across) * across) * side;
        }

        private int topOf(int tile) {
            return quotient(tile, tilesAcross()) * side;
        }

        private int widthOf(int tile) {
            return Math.min(side, columns - leftOf(tile));
        }

        private int heightOf(int tile) {
            return Math.min(side, rows - topOf(tile));
        }

        private int totalIn(int[] numbers, int tile) {
            int left = leftOf(tile);
            int top = topOf(tile);
            return totalOf(numbers, left, top, left + widthOf(tile), top + heightOf(tile));
        }

        private int totalOf(int[] numbers, int left, int top, int endColumn, int endRow) {
            int sum = 0;
            for (int row = top; row < endRow; row++) {
                for (int column = left; column < endColumn; column++) {
                    sum += at(numbers, indexOf(column, row));
                }
            }
            return sum;
        }

        // Row by row, as the pixel told with a refusal is the lowest one.
        private int firstHurt(int tile, int by) {
            int left = leftOf(tile);
            int top = topOf(tile);
            int width = widthOf(tile);
            int height = heightOf(tile);
            for (int row = 0; row < height; row++) {
                for (int column = 0; column < width; column++) {
                    int place = indexOf(left + column, top + row);
                    if (!isBetween(at(values, place) + by, 0, MOST_VALUE)) {
                        return place;
                    }
                }
            }
            return NONE;
        }

        private void add(int tile, int by) {
            int left = leftOf(tile);
            int top = topOf(tile);
            int width = widthOf(tile);
            int height = heightOf(tile);
            for (int row = 0; row < height; row++) {
                for (int column = 0; column < width; column++) {
                    int place = indexOf(left + column, top + row);
                    put(values, place, at(values, place) + by);
                }
            }
        }

        private int exchange(int tile, int other) {
            int width = widthOf(tile);
            int height = heightOf(tile);
            int changed = 0;
            for (int row = 0; row < height; row++) {
                for (int column = 0; column < width; column++) {
                    int here = indexOf(leftOf(tile) + column, topOf(tile) + row);
                    int there = indexOf(leftOf(other) + column, topOf(other) + row);
                    int value = at(values, here);
                    if (value != at(values, there)) {
                        changed++;
                    }
                    put(values, here, at(values, there));
                    put(values, there, value);
                }
            }
            return changed;
        }
    }

    /** A ring of the pictures that stood before the latest changes, so that a new one takes the oldest one's room. */
    private static final class History {
        private final Picture[] pictures;
        private int next;
        private int kept;

        private History() {
            pictures = new Picture[UNDOABLE];
            for (int i = 0; i < pictures.length; i++) {
                pictures[i] = new Picture();
            }
            next = 0;
            kept = 0;
        }

        private void keep(Picture picture) {
            Picture free = pictureAt(next);
            if (free != null) {
                free.copy(picture);
            }
            next = next + 1 < UNDOABLE ? next + 1 : 0;
            kept = Math.min(kept + 1, UNDOABLE);
        }

        private void takeBack(Picture picture) {
            next = next > 0 ? next - 1 : UNDOABLE - 1;
            kept = Math.max(kept - 1, 0);
            Picture latest = pictureAt(next);
            if (latest != null) {
                picture.copy(latest);
            }
        }

        private Picture pictureAt(int index) {
            return index >= 0 && index < pictures.length ? pictures[index] : null;
        }
    }

    /** One tile at work: its values, its coefficients and what is known of their places. */
    private static final class Tile {
        private int left;
        private int top;
        private int width;
        private int height;
        private int depth;
        private int boost;
        private final int[] own;
        private final int[] coefficients;
        private final int[] bands;
        private final int[] parents;
        private final int[] masked;
        private final int[] loud;
        private final int[] joined;
        private final int[] line;

        private Tile() {
            own = new int[PLACES];
            coefficients = new int[PLACES];
            bands = new int[PLACES];
            parents = new int[PLACES];
            masked = new int[PLACES];
            loud = new int[PLACES];
            joined = new int[PLACES];
            line = new int[WIDEST_TILE];
        }

        private void load(Picture picture, int tile) {
            left = picture.leftOf(tile);
            top = picture.topOf(tile);
            width = picture.widthOf(tile);
            height = picture.heightOf(tile);
            boost = picture.boost;
            depth = 0;
            while (depth < picture.levels && (lows(width, depth) > 1 || lows(height, depth) > 1)) {
                depth++;
            }
            for (int row = 0; row < height; row++) {
                for (int column = 0; column < width; column++) {
                    int value = at(picture.values, picture.indexOf(left + column, top + row));
                    put(own, placeOf(column, row), value);
                    put(coefficients, placeOf(column, row), value);
                    describe(picture, column, row);
                }
            }
            for (int level = 1; level <= depth; level++) {
                splitArea(lows(width, level - 1), lows(height, level - 1));
            }
        }

        // Each level rounds up, as a last number without a partner is a low one; so do all of them together.
        private static int lows(int length, int levels) {
            return (length + (1 << levels) - 1) >> levels;
        }

        private void describe(Picture picture, int column, int row) {
            int level = levelAt(column, row);
            int bandColumn = column;
            int bandRow = row;
            int kind = 0;
            if (level > 0 && column >= lows(width, level)) {
                kind += 1;
                bandColumn -= lows(width, level);
            }
            if (level > 0 && row >= lows(height, level)) {
                kind += 2;
                bandRow -= lows(height, level);
            }
            int place = placeOf(column, row);
            put(bands, place, 10 * level + kind);
            put(parents, place, parentOf(level, kind, bandColumn, bandRow));
            put(masked, place, isMade(picture, bandColumn, bandRow, level == 0 ? depth : level) ? 1 : 0);
        }

        private int levelAt(int column, int row) {
            for (int level = 1; level <= depth; level++) {
                if (column >= lows(width, level) || row >= lows(height, level)) {
                    return level;
                }
            }
            return 0;
        }

        // Trees are kept by parents: each place has at most one, and children need no room of their own.
        private int parentOf(int level, int kind, int bandColumn, int bandRow) {
            if (level == 0) {
                return NONE;
            }
            if (level == depth) {
                return placeOf(bandColumn, bandRow);
            }
            int column = (bandColumn >> 1) + ((kind & 1) != 0 ? lows(width, level + 1) : 0);
            int row = (bandRow >> 1) + ((kind & 2) != 0 ? lows(height, level + 1) : 0);
            // A band can be more than twice as wide as the one above it; what is left over has no parent.
            return column < lows(width, level) && row < lows(height, level) ? placeOf(column, row) : NONE;
        }

        // Pairs are always neighbours, so that some levels make a number of one square of pixels.
        private boolean isMade(Picture picture, int bandColumn, int bandRow, int levels) {
            int firstColumn = bandColumn << levels;
            int firstRow = bandRow << levels;
            int endColumn = Math.min(width, (bandColumn + 1) << levels);
            int endRow = Math.min(height, (bandRow + 1) << levels);
            return picture.totalOf(picture.masked, left + firstColumn, top + firstRow,
                    left + endColumn, top + endRow) > 0;
        }

        private void splitArea(int columns, int rows) {
            for (int row = 0; row < rows; row++) {
                splitLine(placeOf(0, row), 1, columns);
            }
            for (int column = 0; column < columns; column++) {
                splitLine(placeOf(column, 0), WIDEST_TILE, rows);
            }
        }

        private void splitLine(int start, int step, int count) {
            takeLine(coefficients, start, step, count);
            int lowCount = lows(count, 1);
            for (int i = 0; i < lowCount; i++) {
                int former = at(line, 2 * i);
                if (2 * i + 1 < count) {
                    int latter = at(line, 2 * i + 1);
                    put(coefficients, start + i * step, (former + latter) >> 1);
                    put(coefficients, start + (lowCount + i) * step, former - latter);
                } else {
                    put(coefficients, start + i * step, former);
                }
            }
        }

        private void takeLine(int[] numbers, int start, int step, int count) {
            for (int i = 0; i < count; i++) {
                put(line, i, at(numbers, start + i * step));
            }
        }

        private void joinLevels(boolean isDoubt) {
            for (int level = depth; level > 0; level--) {
                int columns = lows(width, level - 1);
                int rows = lows(height, level - 1);
                for (int column = 0; column < columns; column++) {
                    joinLine(placeOf(column, 0), WIDEST_TILE, rows, isDoubt);
                }
                for (int row = 0; row < rows; row++) {
                    joinLine(placeOf(0, row), 1, columns, isDoubt);
                }
            }
        }

        // Doubts differ from numbers in one point: a high one adds to both numbers that are joined.
        private void joinLine(int start, int step, int count, boolean isDoubt) {
            takeLine(joined, start, step, count);
            int lowCount = lows(count, 1);
            for (int i = 0; i < lowCount; i++) {
                int low = at(line, i);
                if (2 * i + 1 < count) {
                    int high = at(line, lowCount + i);
                    int former = low + ((high + 1) >> 1);
                    put(joined, start + 2 * i * step, former);
                    put(joined, start + (2 * i + 1) * step, isDoubt ? former : former - high);
                } else {
                    put(joined, start + 2 * i * step, low);
                }
            }
        }

        private int countOther(int[] numbers) {
            int count = 0;
            for (int row = 0; row < height; row++) {
                for (int column = 0; column < width; column++) {
                    if (at(numbers, placeOf(column, row)) != 0) {
                        count++;
                    }
                }
            }
            return count;
        }

        private int layerAt(int place, int plane) {
            int layer = PLANES - 1 - plane;
            return Math.max(0, at(masked, place) != 0 ? layer - boost : layer);
        }

        // The planes missing are the lowest ones. Below layer 0 a boost cannot put any: they gather there,
        // so that the first layer may bring several of them, and the count for no layers stands alone.
        private int missingPlanes(int place, int layers) {
            return layers < 1 ? PLANES : Math.max(0, layerAt(place, 0) + 1 - layers);
        }

        private int bitTotal(int layer) {
            int count = 0;
            for (int row = 0; row < height; row++) {
                for (int column = 0; column < width; column++) {
                    count += bitsAt(placeOf(column, row), layer);
                }
            }
            return count;
        }

        private int bitsAt(int place, int layer) {
            int amount = amountOf(at(coefficients, place));
            int count = 0;
            for (int plane = 0; plane < PLANES; plane++) {
                if (layer == ALL_LAYERS || layerAt(place, plane) == layer) {
                    boolean isHighest = amount >> plane == 1;
                    count += isHighest ? 2 : 1;
                }
            }
            return count;
        }

        private int countBelow(int place) {
            int count = 0;
            for (int row = 0; row < height; row++) {
                for (int column = 0; column < width; column++) {
                    if (isBelow(placeOf(column, row), place)) {
                        count++;
                    }
                }
            }
            return count;
        }

        private boolean isBelow(int place, int above) {
            int parent = at(parents, place);
            for (int step = 0; step < MOST_LEVELS && parent >= 0; step++) {
                if (parent == above) {
                    return true;
                }
                parent = at(parents, parent);
            }
            return false;
        }

        private int countRoots(int plane) {
            markLoud(1 << plane);
            int count = 0;
            for (int row = 0; row < height; row++) {
                for (int column = 0; column < width; column++) {
                    int place = placeOf(column, row);
                    int parent = at(parents, place);
                    if (at(loud, place) == 0 && (parent < 0 || at(loud, parent) != 0)) {
                        count++;
                    }
                }
            }
            return count;
        }

        private void markLoud(int least) {
            for (int place = 0; place < PLACES; place++) {
                put(loud, place, 0);
            }
            for (int row = 0; row < height; row++) {
                for (int column = 0; column < width; column++) {
                    int place = placeOf(column, row);
                    if (amountOf(at(coefficients, place)) >= least) {
                        markUpwards(place);
                    }
                }
            }
        }

        private void markUpwards(int start) {
            int place = start;
            for (int step = 0; step <= MOST_LEVELS && place >= 0; step++) {
                put(loud, place, 1);
                place = at(parents, place);
            }
        }

        private int countJoined(int column, int row) {
            int count = 1;
            for (int level = 1; level <= depth; level++) {
                int across = joinedOf(column >> (level - 1), lows(width, level - 1));
                int down = joinedOf(row >> (level - 1), lows(height, level - 1));
                // One of these is low in both directions: the next level stands for it.
                count += across * down - 1;
            }
            return count;
        }

        // Only the last number of an odd row has no partner, and is joined of its low number alone.
        private static int joinedOf(int index, int length) {
            return (index | 1) < length ? 2 : 1;
        }

        private void decode(int layers) {
            for (int row = 0; row < height; row++) {
                for (int column = 0; column < width; column++) {
                    int place = placeOf(column, row);
                    int number = at(coefficients, place);
                    int missing = missingPlanes(place, layers);
                    int amount = (amountOf(number) >> missing) << missing;
                    put(joined, place, number < 0 ? -amount : amount);
                }
            }
            joinLevels(false);
            for (int place = 0; place < PLACES; place++) {
                put(joined, place, Math.max(0, Math.min(MOST_VALUE, at(joined, place))));
            }
        }

        private int differenceAt(int place) {
            return amountOf(at(joined, place) - at(own, place));
        }

        private int greatestDifference(int layers) {
            decode(layers);
            int greatest = 0;
            for (int row = 0; row < height; row++) {
                for (int column = 0; column < width; column++) {
                    greatest = Math.max(greatest, differenceAt(placeOf(column, row)));
                }
            }
            return greatest;
        }

        private int sumOfSquares(int layers) {
            decode(layers);
            int sum = 0;
            for (int row = 0; row < height; row++) {
                for (int column = 0; column < width; column++) {
                    int difference = differenceAt(placeOf(column, row));
                    sum += difference * difference;
                }
            }
            return sum;
        }

        private int greatestDoubt(int layers) {
            for (int row = 0; row < height; row++) {
                for (int column = 0; column < width; column++) {
                    int place = placeOf(column, row);
                    put(joined, place, (1 << missingPlanes(place, layers)) - 1);
                }
            }
            joinLevels(true);
            int greatest = 0;
            for (int row = 0; row < height; row++) {
                for (int column = 0; column < width; column++) {
                    greatest = Math.max(greatest, at(joined, placeOf(column, row)));
                }
            }
            return Math.min(MOST_VALUE, greatest);
        }

        private int storeDecoded(Picture picture) {
            int changed = 0;
            for (int row = 0; row < height; row++) {
                for (int column = 0; column < width; column++) {
                    int place = placeOf(column, row);
                    if (differenceAt(place) != 0) {
                        changed++;
                    }
                    put(picture.values, picture.indexOf(left + column, top + row), at(joined, place));
                }
            }
            return changed;
        }
    }

    /** The latest plan, with what the next step of making it has to compare. */
    private static final class Plan {
        private int tiles;
        private final int[] layers;
        private final int[] differences;
        private final int[] costs;

        private Plan() {
            tiles = NONE;
            layers = new int[MOST_TILES];
            differences = new int[MOST_TILES];
            costs = new int[MOST_TILES];
        }

        private void start(int tileCount) {
            tiles = tileCount;
            for (int tile = 0; tile < MOST_TILES; tile++) {
                put(layers, tile, 0);
            }
        }

        // Only a greater difference takes the place of an earlier tile's, as of equal ones the lowest number wins.
        private int nextTile(int left) {
            int best = NONE;
            int greatest = 0;
            for (int tile = 0; tile < tiles; tile++) {
                boolean isOpen = at(layers, tile) < LAYERS && at(costs, tile) <= left;
                if (isOpen && at(differences, tile) > greatest) {
                    best = tile;
                    greatest = at(differences, tile);
                }
            }
            return best;
        }
    }

    /** The input, and its items once it has been parsed. */
    private static final class Script {
        private final char[] signs;
        private int length;
        private final int[] starts;
        private int items;

        private Script() {
            signs = new char[MOST_SIGNS];
            length = 0;
            starts = new int[MOST_ITEMS];
            items = 0;
        }

        private void append(char sign) {
            if (length >= 0 && length < signs.length) {
                signs[length] = sign;
                length++;
            }
        }

        // Behind the end stands a sign that fits no form, so that a text that ends too early needs no case of its own.
        private int signAt(int offset) {
            return offset >= 0 && offset < length && offset < signs.length ? signs[offset] : NONE;
        }

        private int faultOffset() {
            items = 0;
            int offset = 0;
            for (int item = 0; item < MOST_SIGNS; item++) {
                put(starts, item, offset);
                String form = formOf(signAt(offset));
                if (form.isEmpty()) {
                    return offset;
                }
                int end = offset + 1 + form.length();
                offset = endOfFitting(form, offset + 1);
                if (offset < end) {
                    return offset;
                }
                items++;
                if (offset >= length) {
                    return NONE;
                }
                if (signAt(offset) != ';') {
                    return offset;
                }
                offset++;
            }
            return offset;
        }

        private int endOfFitting(String form, int start) {
            int fitting = 0;
            while (fitting < form.length() && fits(form.charAt(fitting), signAt(start + fitting))) {
                fitting++;
            }
            return start + fitting;
        }

        // Forms tell what follows an item's first sign: c a column, R a row, h a hex, d a digit, = itself.
        private static String formOf(int sign) {
            switch (sign) {
                case 'r':
                    return "cRcR=hh";
                case 'm':
                case 'u':
                    return "cRcR";
                case 't':
                case 'l':
                case 'b':
                    return "d";
                default:
                    return "";
            }
        }

        private static boolean fits(char kind, int sign) {
            switch (kind) {
                case 'c':
                    return isBetween(sign, 'a', 'p');
                case 'R':
                    return isBetween(sign, 'A', 'P');
                case 'h':
                    return isBetween(sign, '0', '9') || isBetween(sign, 'a', 'f');
                case 'd':
                    return isBetween(sign, '0', '9');
                default:
                    return sign == kind;
            }
        }

        private int columnAt(int offset) {
            return signAt(offset) - 'a';
        }

        private int rowAt(int offset) {
            return signAt(offset) - 'A';
        }

        private int hexAt(int offset) {
            int sign = signAt(offset);
            return sign <= '9' ? sign - '0' : sign - 'a' + 10;
        }

        private static int settingOf(int sign) {
            switch (sign) {
                case 't':
                    return SIDE;
                case 'l':
                    return LEVELS;
                case 'b':
                    return BOOST;
                default:
                    return NONE;
            }
        }

        private int reasonAgainst(int item, Picture picture) {
            int start = at(starts, item);
            int what = settingOf(signAt(start));
            if (what >= 0) {
                return isSettable(what, hexAt(start + 1)) ? NONE : SETTING_OUT_OF_RANGE;
            }
            int left = columnAt(start + 1);
            int top = rowAt(start + 2);
            int right = columnAt(start + 3);
            int bottom = rowAt(start + 4);
            if (!picture.has(left, top) || !picture.has(right, bottom)) {
                return NOT_IN_IMAGE;
            }
            return left > right || top > bottom ? CORNERS_TURNED : NONE;
        }

        private void carryOut(int item, Picture picture) {
            int start = at(starts, item);
            int sign = signAt(start);
            int what = settingOf(sign);
            if (what >= 0) {
                picture.choose(what, hexAt(start + 1));
                return;
            }
            int left = columnAt(start + 1);
            int top = rowAt(start + 2);
            int right = columnAt(start + 3);
            int bottom = rowAt(start + 4);
            if (sign == 'r') {
                int value = 16 * hexAt(start + 6) + hexAt(start + 7);
                picture.paint(picture.values, left, top, right, bottom, value);
            } else {
                picture.paint(picture.masked, left, top, right, bottom, sign == 'm' ? 1 : 0);
            }
        }
    }
}
