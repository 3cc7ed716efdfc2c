/** The sentences of "Image" and "Rectangles", and of promises 1 to 13, at their edges. */
final class ImageEdgeTests {

    private static final Class<IndexOutOfBoundsException> INDEX = IndexOutOfBoundsException.class;
    private static final Class<UnsupportedOperationException> REFUSED = UnsupportedOperationException.class;

    public static void main(String[] args) {
        newImage();
        newMask();
        smallestAndLargestImage();
        firstAndLastPixel();
        sizeClearsAll();
        tilesOfAllSizes();
        tilesAreNumberedRowByRow();
        lastTilesCanBeSmaller();
        settingsDivideAnew();
        rectanglesIncludeBothCorners();
        fillCountsDifferent();
        emptyAndFullMask();
        maskOfTiles();
        numbersOfFullImages();
        raiseToTheEnds();
        raiseTellsTheLowestPixel();
        raiseOfSmallTiles();
        swapOfSmallTiles();
        swapComparesColumnsAndRows();
        swapLeavesTheMask();
        softenAtTheEnds();
        softenWithMask();
        Check.end("ImageEdgeTests");
    }

    // ---- image

    private static void newImage() {
        WaveletTiler x = new WaveletTiler();
        Check.due("new: columns", x.number(0), 8);
        Check.due("new: rows", x.number(1), 8);
        Check.due("new: the side", x.number(2), 4);
        Check.due("new: levels", x.number(3), 2);
        Check.due("new: the boost", x.number(4), 0);
        Check.due("new: tiles", x.number(5), 4);
        Check.due("new: pixels in the mask", x.number(6), 0);
        Check.due("new: the sum", x.number(7), 0);
        Check.due("new: changes", x.number(8), 0);
        Check.due("new: characters", x.number(9), 0);
        Check.due("new: the first pixel", x.pixel(0, 0), 0);
        Check.due("new: the last pixel", x.pixel(7, 7), 0);
        Check.refused("new: a ninth column", INDEX, () -> x.pixel(8, 0));
        Check.refused("new: a ninth row", INDEX, () -> x.pixel(0, 8));
        Check.refused("new: a fifth tile", INDEX, () -> x.tile(4, 0));
    }

    private static void newMask() {
        WaveletTiler x = new WaveletTiler();
        x.setting(2, 8);
        for (int tile = 0; tile < 4; tile++) {
            Check.due("new: pixels in the mask of tile " + tile, x.tile(tile, 5), 0);
            Check.due("new: masked coefficients of tile " + tile, x.tile(tile, 6), 0);
            Check.due("new: the first layer of tile " + tile, x.layerOf(tile, 0, 0, 8), 0);
            Check.due("new: the last layer of tile " + tile, x.layerOf(tile, 3, 3, 0), 8);
        }
    }

    private static void smallestAndLargestImage() {
        int[][] sizes = {{2, 2, 1, 1, 1}, {2, 16, 8, 4, 2}, {16, 2, 8, 4, 2}, {16, 16, 64, 16, 4}, {3, 3, 4, 1, 1},
            {15, 15, 64, 16, 4}, {9, 9, 25, 9, 4}, {8, 8, 16, 4, 1}, {5, 4, 6, 2, 1}, {4, 5, 6, 2, 1}};
        for (int[] size : sizes) {
            for (int i = 0; i < 3; i++) {
                WaveletTiler x = new WaveletTiler();
                x.setting(0, 2 << i);
                String text = "size " + size[0] + " " + size[1] + " with a side of " + (2 << i);
                Check.due(text, x.size(size[0], size[1]), size[2 + i]);
                Check.due(text + ": columns", x.number(0), size[0]);
                Check.due(text + ": rows", x.number(1), size[1]);
                Check.due(text + ": the side stays", x.number(2), 2 << i);
                Check.due(text + ": tiles", x.number(5), size[2 + i]);
                Check.due(text + ": snapshot", x.saveSnapshot(), size[2 + i]);
                Check.due(text + ": restored", x.restoreSnapshot(), size[2 + i]);
            }
        }
    }

    private static void firstAndLastPixel() {
        int[][] sizes = {{2, 2}, {2, 16}, {16, 2}, {16, 16}, {3, 5}, {8, 8}};
        for (int[] size : sizes) {
            WaveletTiler x = Images.black(size[0], size[1], 4, 2);
            int column = size[0] - 1;
            int row = size[1] - 1;
            String text = size[0] + " by " + size[1] + ": ";
            Check.due(text + "set the first pixel", x.set(0, 0, 255), 0);
            Check.due(text + "set the last pixel", x.set(column, row, 254), 0);
            Check.due(text + "set the last of the first row", x.set(column, 0, 253), 0);
            Check.due(text + "set the first of the last row", x.set(0, row, 252), 0);
            Check.due(text + "the first pixel", x.pixel(0, 0), 255);
            Check.due(text + "the last pixel", x.pixel(column, row), 254);
            Check.due(text + "the last of the first row", x.pixel(column, 0), 253);
            Check.due(text + "the first of the last row", x.pixel(0, row), 252);
            Check.due(text + "the sum", x.number(7), 255 + 254 + 253 + 252);
            Check.due(text + "set again", x.set(column, row, 0), 254);
            Check.due(text + "decoded", x.decoded(9, 0, row), 252);
        }
    }

    /** "All values become 0, and the mask becomes empty; the settings stay", also those of pixels seen again later. */
    private static void sizeClearsAll() {
        WaveletTiler x = Images.black(16, 16, 8, 3);
        x.setting(2, 8);
        x.fill(0, 0, 15, 15, 255);
        x.mask(0, 0, 15, 15, true);
        x.size(2, 2);
        Check.due("smaller: the sum", x.number(7), 0);
        Check.due("smaller: the mask", x.number(6), 0);
        x.fill(0, 0, 1, 1, 255);
        x.mask(0, 0, 1, 1, true);
        Check.due("larger again", x.size(16, 16), 4);
        for (int i = 0; i < 256; i++) {
            Check.due("larger again: pixel " + i, x.pixel(i % 16, i / 16), 0);
        }
        Check.due("larger again: the mask", x.number(6), 0);
        Check.due("larger again: masked coefficients", x.tile(3, 6), 0);
        Check.due("larger again: side, levels, boost", 100 * x.number(2) + 10 * x.number(3) + x.number(4), 838);
        x.fill(0, 0, 15, 15, 255);
        x.mask(0, 0, 15, 15, true);
        x.size(16, 16);
        Check.due("the same size: the sum", x.number(7), 0);
        Check.due("the same size: the mask", x.number(6), 0);
    }

    /** "Divided into tiles, squares with a side of 2, 4 or 8"; "the last ones of a row or column can be smaller". */
    private static void tilesOfAllSizes() {
        for (int columns = 2; columns <= 16; columns++) {
            for (int rows = 2; rows <= 16; rows++) {
                for (int side = 2; side <= 8; side *= 2) {
                    dueTiles(Images.black(columns, rows, side, 2), columns, rows, side);
                }
            }
        }
    }

    private static void dueTiles(WaveletTiler x, int columns, int rows, int side) {
        int tile = 0;
        for (int top = 0; top < rows; top += side) {
            for (int left = 0; left < columns; left += side) {
                int right = left + side > columns ? columns : left + side;
                int bottom = top + side > rows ? rows : top + side;
                String text = columns + " by " + rows + " with a side of " + side + ": tile " + tile;
                String seen = x.tile(tile, 0) + " " + x.tile(tile, 1) + " " + x.tile(tile, 2) + " " + x.tile(tile, 3);
                Check.due(text, seen, left + " " + top + " " + (right - left) + " " + (bottom - top));
                Check.due(text + ": its first pixel", x.tileOf(left, top), tile);
                Check.due(text + ": its last pixel", x.tileOf(right - 1, bottom - 1), tile);
                tile++;
            }
        }
        Check.due(columns + " by " + rows + " with a side of " + side + ": tiles", x.number(5), tile);
    }

    private static void tilesAreNumberedRowByRow() {
        WaveletTiler x = Images.black(5, 4, 2, 2);
        String[] due = {"00112", "00112", "33445", "33445"};
        for (int row = 0; row < 4; row++) {
            StringBuilder tiles = new StringBuilder();
            for (int column = 0; column < 5; column++) {
                tiles.append(x.tileOf(column, row));
            }
            Check.due("tiles of row " + row, tiles.toString(), due[row]);
        }
    }

    /** Tiles of one column, of one row and of one pixel. */
    private static void lastTilesCanBeSmaller() {
        WaveletTiler x = Images.black(9, 9, 8, 3);
        x.fill(0, 0, 8, 8, 1);
        x.mask(0, 0, 8, 8, true);
        String[] due = {"0 0 8 8 3 64 64 1 64", "8 0 1 8 3 8 8 1 8", "0 8 8 1 3 8 8 1 8", "8 8 1 1 0 1 1 1 1"};
        for (int tile = 0; tile < 4; tile++) {
            StringBuilder numbers = new StringBuilder();
            for (int what = 0; what <= 8; what++) {
                numbers.append(what == 0 ? "" : " ").append(x.tile(tile, what));
            }
            Check.due("numbers of tile " + tile, numbers.toString(), due[tile]);
        }
    }

    private static void settingsDivideAnew() {
        WaveletTiler x = Images.black(16, 16, 8, 0);
        x.set(15, 15, 255);
        Check.due("4 tiles", x.tile(3, 8), 255);
        Check.due("setting the side", x.setting(0, 2), 8);
        Check.due("64 tiles", x.tile(63, 8), 255);
        Check.due("64 tiles: the value stays", x.pixel(15, 15), 255);
        Check.due("setting the side again", x.setting(0, 2), 2);
        Check.due("setting the greatest levels", x.setting(1, 3), 0);
        Check.due("setting no levels", x.setting(1, 0), 3);
        Check.due("setting the greatest boost", x.setting(2, 8), 0);
        Check.due("setting no boost", x.setting(2, 0), 8);
        Check.due("setting leaves what it does not tell", 100 * x.number(2) + 10 * x.number(3) + x.number(4), 200);
    }

    // ---- rectangles

    private static void dueRectangle(int left, int top, int right, int bottom, int count) {
        String text = "rectangle " + left + " " + top + " " + right + " " + bottom;
        WaveletTiler x = new WaveletTiler();
        Check.due(text + ": filled", x.fill(left, top, right, bottom, 255), count);
        Check.due(text + ": the sum", x.number(7), 255 * count);
        Check.due(text + ": the mask", x.mask(left, top, right, bottom, true), count);
        x.setting(0, 8);
        x.setting(1, 0);
        x.setting(2, 8);
        for (int row = 0; row < 8; row++) {
            for (int column = 0; column < 8; column++) {
                boolean isIn = column >= left && column <= right && row >= top && row <= bottom;
                Check.due(text + ": value " + column + " " + row, x.pixel(column, row), isIn ? 255 : 0);
                Check.due(text + ": mask " + column + " " + row, x.layerOf(0, column, row, 0), isIn ? 0 : 8);
            }
        }
        Check.due(text + ": taken out", x.mask(left, top, right, bottom, false), 0);
        Check.due(text + ": filled back", x.fill(left, top, right, bottom, 0), count);
    }

    /** "A first column and row and a last column and row, both included." */
    private static void rectanglesIncludeBothCorners() {
        dueRectangle(0, 0, 0, 0, 1);
        dueRectangle(7, 7, 7, 7, 1);
        dueRectangle(7, 0, 7, 0, 1);
        dueRectangle(0, 7, 0, 7, 1);
        dueRectangle(0, 0, 7, 7, 64);
        dueRectangle(0, 0, 7, 0, 8);
        dueRectangle(0, 7, 7, 7, 8);
        dueRectangle(0, 0, 0, 7, 8);
        dueRectangle(7, 0, 7, 7, 8);
        dueRectangle(1, 1, 6, 6, 36);
        dueRectangle(3, 4, 4, 4, 2);
        dueRectangle(4, 3, 4, 4, 2);
    }

    private static void fillCountsDifferent() {
        WaveletTiler x = Images.black(16, 16, 8, 3);
        Check.due("fill black with 0", x.fill(0, 0, 15, 15, 0), 0);
        Check.due("fill all with 255", x.fill(0, 0, 15, 15, 255), 256);
        Check.due("fill all with 255 again", x.fill(0, 0, 15, 15, 255), 0);
        x.set(15, 15, 254);
        Check.due("fill all but one again", x.fill(0, 0, 15, 15, 255), 1);
        Check.due("fill all but one differently", x.fill(0, 0, 15, 14, 254), 240);
        Check.due("fill the last one", x.fill(15, 15, 15, 15, 254), 1);
    }

    private static void emptyAndFullMask() {
        WaveletTiler x = Images.black(16, 16, 8, 3);
        Check.due("take all out of an empty mask", x.mask(0, 0, 15, 15, false), 0);
        Check.due("put all in", x.mask(0, 0, 15, 15, true), 256);
        Check.due("put all in again", x.mask(0, 0, 15, 15, true), 256);
        Check.due("the full mask", x.number(6), 256);
        Check.due("take the last out", x.mask(15, 15, 15, 15, false), 255);
        Check.due("take the first out", x.mask(0, 0, 0, 0, false), 254);
        Check.due("take the last out again", x.mask(15, 15, 15, 15, false), 254);
        Check.due("take all out", x.mask(0, 0, 15, 15, false), 0);
        Check.due("put the last in", x.mask(15, 15, 15, 15, true), 1);
        Check.due("put the first in", x.mask(0, 0, 0, 0, true), 2);
        Check.due("the mask leaves the values", x.number(7), 0);
        Check.due("the mask's tiles", 10 * x.tile(0, 5) + x.tile(3, 5), 11);
        WaveletTiler y = Images.black(2, 2, 2, 1);
        Check.due("full in the smallest image", y.mask(0, 0, 1, 1, true), 4);
        Check.due("empty in the smallest image", y.mask(0, 0, 1, 1, false), 0);
    }

    /** A tile's pixels in the mask, first and last ones, and none of its neighbours'. */
    private static void maskOfTiles() {
        WaveletTiler x = Images.black(9, 9, 4, 2);
        int[][] corners = {{4, 4}, {7, 4}, {4, 7}, {7, 7}};
        for (int i = 0; i < 4; i++) {
            x.mask(corners[i][0], corners[i][1], corners[i][0], corners[i][1], true);
            Check.due("corner " + i + " of tile 4", x.tile(4, 5), i + 1);
        }
        for (int tile = 0; tile < 9; tile++) {
            Check.due("tile " + tile, x.tile(tile, 5), tile == 4 ? 4 : 0);
        }
        x.mask(0, 0, 8, 8, true);
        int[] due = {16, 16, 4, 16, 16, 4, 4, 4, 1};
        for (int tile = 0; tile < 9; tile++) {
            Check.due("full mask, tile " + tile, x.tile(tile, 5), due[tile]);
            Check.due("full mask, coefficients of tile " + tile, x.tile(tile, 6), due[tile]);
        }
    }

    private static void numbersOfFullImages() {
        WaveletTiler x = Images.black(16, 16, 8, 3);
        x.fill(0, 0, 15, 15, 255);
        Check.due("the greatest sum", x.number(7), 65280);
        Check.due("the greatest sum of a tile", x.tile(3, 8), 16320);
        Check.due("white: coefficients that are not 0", x.tile(3, 7), 1);
        x.setting(1, 0);
        Check.due("white without levels: coefficients that are not 0", x.tile(3, 7), 64);
        x.fill(0, 0, 15, 15, 0);
        Check.due("black: coefficients that are not 0", x.tile(3, 7), 0);
        Check.due("black: the sum", x.number(7) + x.tile(0, 8), 0);
    }

    // ---- edits

    private static void raiseToTheEnds() {
        WaveletTiler x = Images.black(16, 16, 8, 3);
        Check.due("raise the last tile to 255", x.raise(3, 255), 16320);
        Check.due("the last pixel", x.pixel(15, 15), 255);
        Check.due("the tile's first pixel", x.pixel(8, 8), 255);
        Check.due("raise alone", x.number(7), 16320);
        Check.refused("raise it by 1 more", REFUSED, () -> x.raise(3, 1));
        Check.due("reason", x.refusal(true), 5);
        Check.due("pixel", x.refusal(false), 8 * 16 + 8);
        Check.due("raise it by 0", x.raise(3, 0), 16320);
        Check.due("raise it down to 0", x.raise(3, -255), 0);
        Check.refused("raise it by -1 more", REFUSED, () -> x.raise(3, -1));
        Check.due("reason", x.refusal(true), 4);
        Check.due("pixel", x.refusal(false), 8 * 16 + 8);
        Check.due("raise it by 0 again", x.raise(3, 0), 0);
    }

    /** The lowest such pixel: the first of the tile, its last, and the last of the image; not the worst one. */
    private static void raiseTellsTheLowestPixel() {
        int[][] tops = {{0, 0}, {3, 3}, {1, 2}};
        for (int tile = 0; tile < 4; tile++) {
            for (int[] top : tops) {
                WaveletTiler x = new WaveletTiler();
                int column = x.tile(tile, 0) + top[0];
                int row = x.tile(tile, 1) + top[1];
                x.fill(0, 0, 7, 7, 100);
                x.set(column, row, 101);
                Check.refused("raise " + tile + " by 155", REFUSED, () -> x.raise(x.tileOf(column, row), 155));
                Check.due("pixel of " + tile + ", above", x.refusal(false), row * 8 + column);
                Check.due("reason", x.refusal(true), 5);
                x.set(column, row, 99);
                Check.refused("raise " + tile + " by -100", REFUSED, () -> x.raise(x.tileOf(column, row), -100));
                Check.due("pixel of " + tile + ", below", x.refusal(false), row * 8 + column);
                Check.due("reason", x.refusal(true), 4);
            }
        }
        WaveletTiler x = Images.black(9, 16, 8, 3);
        x.set(2, 9, 1);
        x.set(1, 10, 200);
        Check.refused("raise 2 by 255", REFUSED, () -> x.raise(2, 255));
        Check.due("the lower row ahead of the greater value", x.refusal(false), 9 * 9 + 2);
        x.set(7, 9, 255);
        Check.refused("raise 2 by 254", REFUSED, () -> x.raise(2, 254));
        Check.due("a later pixel of the same row", x.refusal(false), 9 * 9 + 7);
    }

    private static void raiseOfSmallTiles() {
        WaveletTiler x = Images.black(9, 9, 8, 3);
        Check.due("raise a tile of one column", x.raise(1, 255), 8 * 255);
        Check.due("raise a tile of one row", x.raise(2, 254), 8 * 254);
        Check.due("raise a tile of one pixel", x.raise(3, 253), 253);
        Check.due("the other tile stays", x.tile(0, 8), 0);
        Check.refused("raise a tile of one pixel by 3", REFUSED, () -> x.raise(3, 3));
        Check.due("the last pixel", x.refusal(false), 80);
        Check.refused("raise a tile of one column by 1", REFUSED, () -> x.raise(1, 1));
        Check.due("its first pixel", x.refusal(false), 8);
        x.set(0, 8, 1);
        Check.refused("raise a tile of one row by -2", REFUSED, () -> x.raise(2, -2));
        Check.due("its first pixel", x.refusal(false), 72);
    }

    /** Tiles smaller than the side are exchanged as well, if both are. */
    private static void swapOfSmallTiles() {
        WaveletTiler x = Images.black(9, 16, 8, 3);
        x.fill(8, 0, 8, 7, 5);
        x.set(8, 15, 5);
        Check.due("swap two tiles of one column", x.swap(1, 3), 7);
        Check.due("the first pixel", x.pixel(8, 0), 0);
        Check.due("the last of the first", x.pixel(8, 7), 5);
        Check.due("the last pixel", x.pixel(8, 15), 5);
        Check.due("the other sum", x.tile(3, 8), 40);
        WaveletTiler y = Images.black(16, 9, 8, 3);
        y.set(0, 8, 255);
        Check.due("swap two tiles of one row", y.swap(3, 2), 1);
        Check.due("the value", y.pixel(8, 8), 255);
        WaveletTiler z = Images.black(16, 16, 2, 1);
        z.fill(14, 14, 15, 15, 9);
        Check.due("swap the first tile and the last", z.swap(0, 63), 4);
        Check.due("the first", z.tile(0, 8), 36);
        Check.due("the last", z.tile(63, 8), 0);
        Check.due("swap the last with itself", z.swap(63, 63), 0);
    }

    /** "6, tiles have different sizes": columns and rows count, not only the number of pixels. */
    private static void swapComparesColumnsAndRows() {
        WaveletTiler x = Images.black(5, 5, 4, 2);
        for (int tile = 0; tile < 4; tile++) {
            for (int other = 0; other < 4; other++) {
                int a = tile;
                int b = other;
                if (a == b) {
                    Check.due("swap " + a + " " + b, x.swap(a, b), 0);
                } else {
                    Check.refused("swap " + a + " " + b, REFUSED, () -> x.swap(a, b));
                    Check.due("swap " + a + " " + b + ": reason", x.refusal(true), 6);
                    Check.due("swap " + a + " " + b + ": number", x.refusal(false), 0);
                }
            }
        }
        WaveletTiler y = Images.black(6, 6, 4, 2);
        Check.refused("swap 2 by 4 and 4 by 2", REFUSED, () -> y.swap(1, 2));
        Check.refused("swap 4 by 4 and 2 by 4", REFUSED, () -> y.swap(0, 1));
        Check.refused("swap 4 by 4 and 4 by 2", REFUSED, () -> y.swap(0, 2));
    }

    private static void swapLeavesTheMask() {
        WaveletTiler x = new WaveletTiler();
        x.mask(0, 0, 3, 3, true);
        x.raise(0, 7);
        Check.due("swap 0 3", x.swap(0, 3), 16);
        Check.due("the values", 1000 * x.tile(0, 8) + x.tile(3, 8), 112);
        Check.due("the mask", 1000 * x.tile(0, 5) + x.tile(3, 5), 16000);
    }

    private static void softenAtTheEnds() {
        WaveletTiler x = Images.black(9, 9, 8, 3);
        Check.due("soften black with no layers", x.soften(0, 0), 0);
        x.fill(0, 0, 8, 8, 255);
        int[] pixels = {64, 8, 8, 1};
        for (int tile = 0; tile < 4; tile++) {
            Check.due("soften " + tile + " with all layers", x.soften(tile, 9), 0);
            Check.due("soften " + tile + " with 8 layers", x.soften(tile, 8), pixels[tile]);
            Check.due("soften " + tile + " with 8 layers again", x.soften(tile, 8), 0);
            Check.due("soften " + tile + ": the sum", x.tile(tile, 8), 254 * pixels[tile]);
            Check.due("soften " + tile + " with no layers", x.soften(tile, 0), pixels[tile]);
            Check.due("soften " + tile + ": the sum then", x.tile(tile, 8), 0);
        }
        Check.due("all is black", x.number(7), 0);
    }

    private static void softenWithMask() {
        WaveletTiler x = Images.black(4, 4, 4, 0);
        x.setting(2, 8);
        x.mask(3, 3, 3, 3, true);
        x.fill(0, 0, 3, 3, 129);
        Check.due("soften", x.soften(0, 2), 15);
        Check.due("a value that is not in the mask", x.pixel(0, 0), 128);
        Check.due("the value in the mask", x.pixel(3, 3), 129);
        Check.due("soften leaves the mask", x.number(6), 1);
        Check.due("soften with no layers", x.soften(0, 0), 16);
        Check.due("the value in the mask then", x.pixel(3, 3), 0);
    }
}
