import java.util.function.Supplier;

/**
 * Each number that a method takes: all that are in range, or the ends of a long range, and the first ones beyond it at
 * both ends, which throw what the method's "Throws" says and leave the state as it was.
 */
final class RangeTests {

    private static final Class<IllegalArgumentException> ARGUMENT = IllegalArgumentException.class;
    private static final Class<IndexOutOfBoundsException> INDEX = IndexOutOfBoundsException.class;

    /** A call that takes the number of which the range is asked. */
    private interface Asked {
        Object answer(WaveletTiler x, int number);
    }

    /** An image with its name, so that each range is asked of several. */
    private static final class Case {
        final String name;
        final Supplier<WaveletTiler> maker;
        final String state;
        final int columns;
        final int rows;
        final int tiles;

        Case(String name, Supplier<WaveletTiler> maker) {
            this.name = name;
            this.maker = maker;
            state = State.of(maker);
            columns = maker.get().number(0);
            rows = maker.get().number(1);
            tiles = maker.get().number(5);
        }
    }

    public static void main(String[] args) {
        Case[] cases = {
            new Case("new", WaveletTiler::new),
            new Case("smallest", () -> Images.black(2, 2, 2, 1)),
            new Case("largest", () -> Images.black(16, 16, 2, 2)),
            new Case("largest with large tiles", () -> Images.black(16, 16, 8, 3)),
            new Case("flat", () -> Images.black(16, 2, 4, 3)),
            new Case("high", () -> Images.black(2, 16, 8, 0)),
            new Case("odd", () -> Images.black(9, 5, 4, 2)),
            new Case("full", Images::full),
        };
        for (Case c : cases) {
            sizesAndSettings(c);
            pixels(c);
            corners(c);
            values(c);
            tiles(c);
            places(c);
            planesAndLayers(c);
            plans(c);
        }
        steps();
        sides();
        Check.end("RangeTests");
    }

    private static void range(Case c, String name, Class<? extends RuntimeException> beyond, int least, int most,
            Asked call) {
        for (int number = least; number <= most; number++) {
            if (number < least + 20 || number > most - 20) {
                inside(c, name, number, call);
            }
        }
        for (int number : new int[] {least - 1, most + 1, Integer.MIN_VALUE, Integer.MAX_VALUE}) {
            beyond(c, name, beyond, number, call);
        }
    }

    private static void inside(Case c, String name, int number, Asked call) {
        String outcome = Check.outcome(() -> call.answer(c.maker.get(), number));
        Check.due(c.name + ": " + name + " " + number + " throws, " + outcome, outcome.endsWith("Exception"), false);
    }

    private static void beyond(Case c, String name, Class<? extends RuntimeException> due, int number, Asked call) {
        String text = c.name + ": " + name + " " + number;
        Check.refused(text, due, () -> call.answer(c.maker.get(), number));
        String state = State.of(Images.with(c.maker, x -> call.answer(x, number)));
        Check.due(text + " leaves the state", state, c.state);
    }

    private static void sizesAndSettings(Case c) {
        range(c, "size columns", ARGUMENT, 2, 16, (x, n) -> x.size(n, 5));
        range(c, "size rows", ARGUMENT, 2, 16, (x, n) -> x.size(5, n));
        range(c, "setting what", ARGUMENT, 0, 2, (x, n) -> x.setting(n, 2));
        range(c, "setting levels", ARGUMENT, 0, 3, (x, n) -> x.setting(1, n));
        range(c, "setting boost", ARGUMENT, 0, 8, (x, n) -> x.setting(2, n));
        range(c, "number what", ARGUMENT, 0, 9, WaveletTiler::number);
    }

    private static void pixels(Case c) {
        int column = c.columns - 1;
        int row = c.rows - 1;
        range(c, "set column", INDEX, 0, column, (x, n) -> x.set(n, row, 1));
        range(c, "set row", INDEX, 0, row, (x, n) -> x.set(column, n, 1));
        range(c, "pixel column", INDEX, 0, column, (x, n) -> x.pixel(n, row));
        range(c, "pixel row", INDEX, 0, row, (x, n) -> x.pixel(column, n));
        range(c, "tileOf column", INDEX, 0, column, (x, n) -> x.tileOf(n, row));
        range(c, "tileOf row", INDEX, 0, row, (x, n) -> x.tileOf(column, n));
        range(c, "needed column", INDEX, 0, column, (x, n) -> x.needed(n, row));
        range(c, "needed row", INDEX, 0, row, (x, n) -> x.needed(column, n));
        range(c, "decoded column", INDEX, 0, column, (x, n) -> x.decoded(9, n, row));
        range(c, "decoded row", INDEX, 0, row, (x, n) -> x.decoded(0, column, n));
    }

    private static void corners(Case c) {
        int column = c.columns - 1;
        int row = c.rows - 1;
        range(c, "fill left", INDEX, 0, column, (x, n) -> x.fill(n, 0, column, row, 1));
        range(c, "fill top", INDEX, 0, row, (x, n) -> x.fill(0, n, column, row, 1));
        range(c, "fill right", INDEX, 0, column, (x, n) -> x.fill(0, 0, n, row, 1));
        range(c, "fill bottom", INDEX, 0, row, (x, n) -> x.fill(0, 0, column, n, 1));
        range(c, "mask left", INDEX, 0, column, (x, n) -> x.mask(n, 0, column, row, true));
        range(c, "mask top", INDEX, 0, row, (x, n) -> x.mask(0, n, column, row, false));
        range(c, "mask right", INDEX, 0, column, (x, n) -> x.mask(0, 0, n, row, true));
        range(c, "mask bottom", INDEX, 0, row, (x, n) -> x.mask(0, 0, column, n, false));
        dueTurned(c, "columns", column, 0, 0, 0);
        dueTurned(c, "columns by one", column, 0, column - 1, row);
        dueTurned(c, "rows", 0, row, 0, 0);
        dueTurned(c, "rows by one", 0, row, column, row - 1);
        dueTurned(c, "both", column, row, 0, 0);
    }

    private static void dueTurned(Case c, String name, int left, int top, int right, int bottom) {
        beyond(c, "fill, turned " + name, ARGUMENT, 0, (x, n) -> x.fill(left, top, right, bottom, 1));
        beyond(c, "mask, turned " + name, ARGUMENT, 1, (x, n) -> x.mask(left, top, right, bottom, true));
        beyond(c, "mask out, turned " + name, ARGUMENT, 0, (x, n) -> x.mask(left, top, right, bottom, false));
    }

    private static void values(Case c) {
        range(c, "set value", ARGUMENT, 0, 255, (x, n) -> x.set(c.columns - 1, c.rows - 1, n));
        range(c, "fill value", ARGUMENT, 0, 255, (x, n) -> x.fill(0, 0, c.columns - 1, c.rows - 1, n));
    }

    private static void tiles(Case c) {
        int last = c.tiles - 1;
        range(c, "tile", INDEX, 0, last, (x, n) -> x.tile(n, 8));
        range(c, "tile what", ARGUMENT, 0, 8, (x, n) -> x.tile(last, n));
        range(c, "raise", INDEX, 0, last, (x, n) -> x.raise(n, 0));
        range(c, "swap", INDEX, 0, last, (x, n) -> x.swap(n, n));
        range(c, "soften", INDEX, 0, last, (x, n) -> x.soften(n, 9));
        range(c, "coefficient", INDEX, 0, last, (x, n) -> x.coefficient(n, 0, 0));
        range(c, "band", INDEX, 0, last, (x, n) -> x.band(n, 0, 0));
        range(c, "layerOf", INDEX, 0, last, (x, n) -> x.layerOf(n, 0, 0, 0));
        range(c, "bits", INDEX, 0, last, (x, n) -> x.bits(n, 8));
        range(c, "descendants", INDEX, 0, last, (x, n) -> x.descendants(n, 0, 0));
        range(c, "roots", INDEX, 0, last, (x, n) -> x.roots(n, 9));
        range(c, "worst", INDEX, 0, last, (x, n) -> x.worst(9, n, false));
        range(c, "bound", INDEX, 0, last, (x, n) -> x.worst(0, n, true));
        for (int tile : new int[] {-1, c.tiles, Integer.MIN_VALUE, Integer.MAX_VALUE}) {
            beyond(c, "swap with tile", INDEX, tile, (x, n) -> x.swap(0, n));
            beyond(c, "swap of tile", INDEX, tile, (x, n) -> x.swap(n, 0));
        }
    }

    /** The places of the first and of the last tile, which can be smaller. */
    private static void places(Case c) {
        for (int tile : new int[] {0, c.tiles - 1}) {
            int column = c.maker.get().tile(tile, 2) - 1;
            int row = c.maker.get().tile(tile, 3) - 1;
            range(c, "coefficient column", INDEX, 0, column, (x, n) -> x.coefficient(tile, n, row));
            range(c, "coefficient row", INDEX, 0, row, (x, n) -> x.coefficient(tile, column, n));
            range(c, "band column", INDEX, 0, column, (x, n) -> x.band(tile, n, row));
            range(c, "band row", INDEX, 0, row, (x, n) -> x.band(tile, column, n));
            range(c, "layerOf column", INDEX, 0, column, (x, n) -> x.layerOf(tile, n, row, 0));
            range(c, "layerOf row", INDEX, 0, row, (x, n) -> x.layerOf(tile, column, n, 8));
            range(c, "descendants column", INDEX, 0, column, (x, n) -> x.descendants(tile, n, row));
            range(c, "descendants row", INDEX, 0, row, (x, n) -> x.descendants(tile, column, n));
        }
    }

    private static void planesAndLayers(Case c) {
        int last = c.tiles - 1;
        range(c, "layerOf plane", ARGUMENT, 0, 8, (x, n) -> x.layerOf(last, 0, 0, n));
        range(c, "roots plane", ARGUMENT, 0, 9, (x, n) -> x.roots(last, n));
        range(c, "bits layer", ARGUMENT, -1, 8, (x, n) -> x.bits(last, n));
        range(c, "soften layers", ARGUMENT, 0, 9, (x, n) -> x.soften(last, n));
        range(c, "decoded layers", ARGUMENT, 0, 9, (x, n) -> x.decoded(n, 0, 0));
        range(c, "worst layers", ARGUMENT, 0, 9, (x, n) -> x.worst(n, last, false));
        range(c, "bound layers", ARGUMENT, 0, 9, (x, n) -> x.worst(n, last, true));
        range(c, "meanSquare layers", ARGUMENT, 0, 9, WaveletTiler::meanSquare);
    }

    private static void plans(Case c) {
        range(c, "plan", ARGUMENT, 0, 9999, WaveletTiler::plan);
        Case planned = new Case(c.name + " with a plan", Images.with(c.maker, x -> x.plan(9)));
        range(planned, "planned", INDEX, 0, c.tiles - 1, WaveletTiler::planned);
    }

    /** What a tile can be raised by, -255 to 255, asked of a black one and of a white one. */
    private static void steps() {
        Case black = new Case("black", WaveletTiler::new);
        Case white = new Case("white", () -> {
            WaveletTiler x = new WaveletTiler();
            x.fill(0, 0, 7, 7, 255);
            return x;
        });
        for (int by : new int[] {0, 1, 254, 255}) {
            Check.due("raise black by " + by, black.maker.get().raise(3, by), 16 * by);
            Check.due("raise white by -" + by, white.maker.get().raise(3, -by), 16 * (255 - by));
        }
        for (int by : new int[] {256, -256, Integer.MAX_VALUE, Integer.MIN_VALUE}) {
            beyond(black, "raise by", ARGUMENT, by, (x, n) -> x.raise(0, n));
            beyond(white, "raise by", ARGUMENT, by, (x, n) -> x.raise(0, n));
        }
    }

    /** The side is 2, 4 or 8, and no other number between or beyond them. */
    private static void sides() {
        Case c = new Case("new", WaveletTiler::new);
        for (int side = -9; side <= 17; side++) {
            if (side == 2 || side == 4 || side == 8) {
                inside(c, "setting side", side, (x, n) -> x.setting(0, n));
            } else {
                beyond(c, "setting side", ARGUMENT, side, (x, n) -> x.setting(0, n));
            }
        }
        beyond(c, "setting side", ARGUMENT, Integer.MIN_VALUE, (x, n) -> x.setting(0, n));
        beyond(c, "setting side", ARGUMENT, Integer.MAX_VALUE, (x, n) -> x.setting(0, n));
    }
}
