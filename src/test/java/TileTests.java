/** Promises 9 to 13: tiles and edits. */
final class TileTests {

    private static final Class<IllegalArgumentException> ARGUMENT = IllegalArgumentException.class;
    private static final Class<IndexOutOfBoundsException> INDEX = IndexOutOfBoundsException.class;
    private static final Class<UnsupportedOperationException> REFUSED = UnsupportedOperationException.class;

    public static void main(String[] args) {
        promise9TileOf();
        promise10Tile();
        promise10LevelsOfSmallTiles();
        promise11Raise();
        promise11RaiseRefused();
        promise12Swap();
        promise12SwapRefused();
        promise13Soften();
        Check.end("TileTests");
    }

    private static void promise9TileOf() {
        WaveletTiler x = new WaveletTiler();
        x.size(9, 6);
        Check.due("tileOf 0 0", x.tileOf(0, 0), 0);
        Check.due("tileOf 3 3", x.tileOf(3, 3), 0);
        Check.due("tileOf 4 3", x.tileOf(4, 3), 1);
        Check.due("tileOf 8 0", x.tileOf(8, 0), 2);
        Check.due("tileOf 0 4", x.tileOf(0, 4), 3);
        Check.due("tileOf 8 5", x.tileOf(8, 5), 5);
        x.setting(0, 2);
        Check.due("tileOf 8 5 with side 2", x.tileOf(8, 5), 14);
        Check.refused("tileOf 9 0", INDEX, () -> x.tileOf(9, 0));
        Check.refused("tileOf 0 6", INDEX, () -> x.tileOf(0, 6));
        Check.refused("tileOf -1 0", INDEX, () -> x.tileOf(-1, 0));
        Check.refused("tileOf 0 -1", INDEX, () -> x.tileOf(0, -1));
    }

    private static void promise10Tile() {
        WaveletTiler x = new WaveletTiler();
        x.size(9, 6);
        x.fill(4, 4, 7, 5, 10);
        x.set(8, 5, 3);
        x.mask(0, 3, 8, 4, true);
        Check.due("tile 4: numbers", numbersOf(x, 4), "4 4 4 2 2 4 8 1 80 ");
        Check.due("tile 5: numbers", numbersOf(x, 5), "8 4 1 2 1 1 2 2 3 ");
        Check.due("tile 0: numbers", numbersOf(x, 0), "0 0 4 4 2 4 10 0 0 ");
        x.size(2, 7);
        x.setting(0, 2);
        Check.due("tile 0 of one across", numbersOf(x, 0), "0 0 2 2 1 0 0 0 0 ");
        Check.due("tile 2 of one across", numbersOf(x, 2), "0 4 2 2 1 0 0 0 0 ");
        Check.due("tile 3 of one across", numbersOf(x, 3), "0 6 2 1 1 0 0 0 0 ");
        x.undo();
        x.undo();
        Check.refused("tile 6", INDEX, () -> x.tile(6, 0));
        Check.refused("tile -1", INDEX, () -> x.tile(-1, 0));
        Check.refused("tile 0 -1", ARGUMENT, () -> x.tile(0, -1));
        Check.refused("tile 0 9", ARGUMENT, () -> x.tile(0, 9));
        Check.refused("tile 6 9: the tile comes first", INDEX, () -> x.tile(6, 9));
    }

    private static String numbersOf(WaveletTiler x, int tile) {
        StringBuilder numbers = new StringBuilder();
        for (int what = 0; what <= 8; what++) {
            numbers.append(x.tile(tile, what)).append(' ');
        }
        return numbers.toString();
    }

    private static void promise10LevelsOfSmallTiles() {
        WaveletTiler x = new WaveletTiler();
        x.size(9, 13);
        x.setting(0, 8);
        int[][] due = {{0, 0, 0, 0}, {1, 1, 1, 1}, {2, 2, 2, 2}, {3, 3, 3, 3}};
        for (int levels = 0; levels <= 3; levels++) {
            x.setting(1, levels);
            for (int tile = 0; tile < 4; tile++) {
                Check.due("levels " + levels + " of tile " + tile, x.tile(tile, 4), due[levels][tile]);
            }
        }
        x.size(3, 5);
        x.setting(0, 2);
        Check.due("levels of a tile of 2 by 2", x.tile(0, 4), 1);
        Check.due("levels of a tile of 1 by 2", x.tile(1, 4), 1);
        Check.due("levels of a tile of 2 by 1", x.tile(4, 4), 1);
        Check.due("levels of a tile of 1 by 1", x.tile(5, 4), 0);
        x.setting(0, 8);
        Check.due("levels of a tile of 3 by 5", x.tile(0, 4), 3);
        x.setting(0, 4);
        Check.due("levels of a tile of 3 by 4", x.tile(0, 4), 2);
        Check.due("levels of a tile of 3 by 1", x.tile(1, 4), 2);
    }

    private static void promise11Raise() {
        WaveletTiler x = new WaveletTiler();
        x.size(5, 3);
        x.set(0, 0, 250);
        Check.due("raise 0 5", x.raise(0, 5), 310);
        Check.due("raise: the greatest value", x.pixel(0, 0), 255);
        Check.due("raise: another value", x.pixel(3, 2), 5);
        Check.due("raise: another tile", x.pixel(4, 0), 0);
        Check.due("raise 0 -5", x.raise(0, -5), 250);
        Check.due("raise 1 255", x.raise(1, 255), 765);
        Check.due("raise 1 -255", x.raise(1, -255), 0);
        Check.due("raise 1 0", x.raise(1, 0), 0);
        Check.due("each raise is a change", x.number(8), 7);
        Check.refused("raise 2", INDEX, () -> x.raise(2, 0));
        Check.refused("raise -1", INDEX, () -> x.raise(-1, 0));
        Check.refused("raise 0 256", ARGUMENT, () -> x.raise(0, 256));
        Check.refused("raise 0 -256", ARGUMENT, () -> x.raise(0, -256));
        Check.refused("raise 2 256: the tile comes first", INDEX, () -> x.raise(2, 256));
        Check.refused("no refusal is kept", java.util.NoSuchElementException.class, () -> x.refusal(true));
    }

    private static void promise11RaiseRefused() {
        WaveletTiler x = new WaveletTiler();
        x.size(10, 9);
        x.fill(4, 4, 7, 7, 100);
        x.set(6, 5, 99);
        x.set(4, 6, 98);
        x.set(5, 7, 101);
        Check.refused("raise 4 -100", REFUSED, () -> x.raise(4, -100));
        Check.due("raise 4 -100: reason", x.refusal(true), 4);
        Check.due("raise 4 -100: the lowest pixel", x.refusal(false), 56);
        Check.refused("raise 4 155", REFUSED, () -> x.raise(4, 155));
        Check.due("raise 4 155: reason", x.refusal(true), 5);
        Check.due("raise 4 155: the lowest pixel", x.refusal(false), 75);
        Check.due("refused raise is no change", x.number(8), 5);
        Check.due("refused raise leaves the values", x.tile(4, 8), 1598);
        Check.due("raise 4 -98", x.raise(4, -98), 30);
    }

    private static void promise12Swap() {
        WaveletTiler x = new WaveletTiler();
        x.size(10, 8);
        x.fill(0, 0, 3, 3, 7);
        x.fill(4, 4, 7, 5, 7);
        x.set(7, 7, 9);
        x.mask(0, 0, 1, 1, true);
        Check.due("swap 0 4", x.swap(0, 4), 8);
        Check.due("swap: a value of the first", x.pixel(3, 3), 9);
        Check.due("swap: a value of the other", x.pixel(7, 7), 7);
        Check.due("swap: a value that stays", x.pixel(0, 0), 7);
        Check.due("swap: the mask stays", x.tile(0, 5), 4);
        Check.due("swap: the other's mask stays", x.tile(4, 5), 0);
        Check.due("swap 2 5", x.swap(2, 5), 0);
        Check.due("swap 4 4", x.swap(4, 4), 0);
        Check.due("swap of itself leaves it", x.tile(4, 8), 16 * 7);
        Check.due("each swap is a change", x.number(8), 8);
        x.undo();
        x.undo();
        x.undo();
        Check.due("undone swap", x.pixel(3, 3), 7);
        x.set(4, 0, 1);
        x.set(7, 0, 2);
        x.set(4, 3, 3);
        Check.due("swap 1 0", x.swap(1, 0), 16);
        Check.due("swap: the first row of the first", x.pixel(4, 0) + x.pixel(7, 0), 14);
        Check.due("swap: the first row of the other", 10 * x.pixel(0, 0) + x.pixel(3, 0), 12);
        Check.due("swap: the last row of the other", 10 * x.pixel(0, 3) + x.pixel(3, 3), 30);
    }

    private static void promise12SwapRefused() {
        WaveletTiler x = new WaveletTiler();
        x.size(6, 5);
        x.fill(0, 0, 3, 3, 1);
        Check.refused("swap 0 4", INDEX, () -> x.swap(0, 4));
        Check.refused("swap 4 0", INDEX, () -> x.swap(4, 0));
        Check.refused("swap -1 0", INDEX, () -> x.swap(-1, 0));
        Check.refused("swap 0 -1", INDEX, () -> x.swap(0, -1));
        Check.refused("no refusal is kept", java.util.NoSuchElementException.class, () -> x.refusal(true));
        Check.refused("swap 0 1", REFUSED, () -> x.swap(0, 1));
        Check.due("swap 0 1: reason", x.refusal(true), 6);
        Check.due("swap 0 1: number", x.refusal(false), 0);
        Check.refused("swap 0 2", REFUSED, () -> x.swap(0, 2));
        Check.refused("swap 2 3", REFUSED, () -> x.swap(2, 3));
        Check.due("refused swap is no change", x.number(8), 2);
        Check.due("refused swap leaves the values", x.tile(0, 8), 16);
        x.size(5, 6);
        x.setting(0, 8);
        x.setting(0, 4);
        Check.refused("swap of 1 by 4 and 4 by 2", REFUSED, () -> x.swap(1, 2));
    }

    private static void promise13Soften() {
        WaveletTiler x = Images.small();
        Check.due("soften 0 9", x.soften(0, 9), 0);
        Check.due("soften that changes nothing is a change", x.number(8), 8);
        Check.due("soften 0 9 leaves the values", x.number(7), 271);
        Check.due("soften 0 2", x.soften(0, 2), 5);
        Check.due("soften 0 2: a value", x.pixel(2, 0), 64);
        Check.due("soften 0 2: the values", x.number(7), 64);
        x.undo();
        Check.due("undone soften", x.number(7), 271);
        Check.due("soften 0 0", x.soften(0, 0), 5);
        Check.due("soften 0 0: the values", x.number(7), 0);
        Check.refused("soften 1", INDEX, () -> x.soften(1, 0));
        Check.refused("soften -1", INDEX, () -> x.soften(-1, 0));
        Check.refused("soften 0 10", ARGUMENT, () -> x.soften(0, 10));
        Check.refused("soften 0 -1", ARGUMENT, () -> x.soften(0, -1));
        Check.refused("soften 1 10: the tile comes first", INDEX, () -> x.soften(1, 10));
        x.size(8, 8);
        x.fill(0, 0, 7, 7, 100);
        Check.due("soften one tile", x.soften(3, 3), 16);
        Check.due("soften leaves other tiles", x.number(7), 48 * 100 + 16 * 64);
    }
}
