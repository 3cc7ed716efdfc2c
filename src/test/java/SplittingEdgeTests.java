/** The sentences of "Splitting" and "Levels", and of promises 14 to 16, at their edges. */
final class SplittingEdgeTests {

    public static void main(String[] args) {
        numbersAreRoundedDown();
        highIsFormerMinusLatter();
        rowsAreSplitAheadOfColumns();
        lowsStandAheadOfHighs();
        rowsOfAllLengths();
        columnsOfAllLengths();
        furtherLevelsSplitTheLowsAlone();
        greatestAmounts();
        joiningUndoesSplitting();
        levelsOfAllTiles();
        bandsOfAllLengths();
        bandsOfTheLargestTile();
        bandsWithoutLevels();
        coefficientsOfTheLastTile();
        maskedByAnyPixel();
        maskedByItsOwnPixelsAlone();
        maskedByNoPixelOfAnotherTile();
        maskedCoefficientsOfEmptyAndFullMask();
        Check.end("SplittingEdgeTests");
    }

    private static void due(String text, WaveletTiler x, int tile, int... coefficients) {
        int width = x.tile(tile, 2);
        for (int i = 0; i < coefficients.length; i++) {
            Check.due(text + ": coefficient " + i, x.coefficient(tile, i % width, i / width), coefficients[i]);
        }
    }

    private static WaveletTiler square(int levels, int... values) {
        WaveletTiler x = Images.black(2, 2, 2, levels);
        Images.paint(x, 0, values);
        return x;
    }

    // ---- splitting

    /** "Numbers are always rounded down, those below 0 too." */
    private static void numbersAreRoundedDown() {
        due("sum 1", square(1, 0, 1, 0, 0), 0, 0, -1, 0, -1);
        due("sum 1 below", square(1, 0, 0, 0, 1), 0, 0, -1, 0, 1);
        due("sum of highs 1", square(1, 1, 0, 0, 0), 0, 0, 0, 0, 1);
        due("sum of highs -3", square(1, 0, 3, 0, 0), 0, 0, -2, 1, -3);
        due("sum of highs -509", square(1, 0, 254, 0, 255), 0, 127, -255, 0, 1);
        due("sum of highs -1", square(1, 9, 255, 255, 10), 0, 132, -1, 0, -491);
        due("sum 509", square(1, 255, 255, 255, 254), 0, 254, 0, 1, -1);
    }

    private static void highIsFormerMinusLatter() {
        due("in rows, white ahead", square(1, 255, 0, 255, 0), 0, 127, 255, 0, 0);
        due("in rows, black ahead", square(1, 0, 255, 0, 255), 0, 127, -255, 0, 0);
        due("in columns, white ahead", square(1, 255, 255, 0, 0), 0, 127, 0, 255, 0);
        due("in columns, black ahead", square(1, 0, 0, 255, 255), 0, 127, 0, -255, 0);
    }

    /** "To split each of its rows, and then each of its columns": the other way round would give a smooth 1. */
    private static void rowsAreSplitAheadOfColumns() {
        due("rows first", square(1, 1, 0, 1, 2), 0, 0, 0, -1, 2);
        due("rows first, turned", square(1, 1, 1, 0, 2), 0, 1, -1, 0, 2);
    }

    private static void lowsStandAheadOfHighs() {
        WaveletTiler x = Images.black(4, 2, 4, 1);
        Images.paint(x, 0, 10, 2, 30, 4, 10, 2, 30, 4);
        due("4 by 2", x, 0, 6, 17, 8, 26, 0, 0, 0, 0);
        WaveletTiler y = Images.black(2, 4, 4, 1);
        Images.paint(y, 0, 10, 10, 2, 2, 30, 30, 4, 4);
        due("2 by 4", y, 0, 6, 0, 17, 0, 8, 0, 26, 0);
    }

    private static final int[][] LINES = {
        {1}, {1, -1}, {2, -3, -1}, {3, -5, -1, -4}, {9, -13, -5, -1, -4}, {13, -21, -5, -1, -4, -16},
        {23, -41, -5, -40, -1, -4, -16}, {31, -57, -5, -72, -1, -4, -16, -64}};

    private static final int[] POWERS = {1, 2, 4, 8, 16, 32, 64, 128};

    /** "If n is odd, the last number is the last low number"; a single row is split in the other direction alone. */
    private static void rowsOfAllLengths() {
        for (int length = 1; length <= 8; length++) {
            WaveletTiler x = Images.black(8 + length, 9, 8, 3);
            Images.paint(x, 3, java.util.Arrays.copyOf(POWERS, length));
            due("a row of " + length, x, 3, LINES[length - 1]);
        }
    }

    private static void columnsOfAllLengths() {
        for (int length = 1; length <= 8; length++) {
            WaveletTiler x = Images.black(9, 8 + length, 8, 3);
            Images.paint(x, 3, java.util.Arrays.copyOf(POWERS, length));
            due("a column of " + length, x, 3, LINES[length - 1]);
        }
    }

    /** "Level 1 splits the whole tile, each further level the area of the low numbers in both directions." */
    private static void furtherLevelsSplitTheLowsAlone() {
        int[] values = {0, 0, 0, 8, 0, 0, 0, 0, 0, 0, 0, 0, 32, 0, 0, 64};
        int[] one = {0, 2, 0, -4, 8, 16, 16, -32, 0, 4, 0, -8, -16, -32, -32, 64};
        int[] two = {6, -5, 0, -4, -11, 6, 16, -32, 0, 4, 0, -8, -16, -32, -32, 64};
        int[][] dues = {values, one, two, two};
        for (int levels = 0; levels <= 3; levels++) {
            WaveletTiler x = Images.black(4, 4, 4, levels);
            Images.paint(x, 0, values);
            due("4 by 4 with levels " + levels, x, 0, dues[levels]);
        }
    }

    private static void greatestAmounts() {
        due("cross 510", square(1, 255, 0, 0, 255), 0, 127, 0, 0, 510);
        due("cross -510", square(1, 0, 255, 255, 0), 0, 127, 0, 0, -510);
        for (int level = 1; level <= 3; level++) {
            WaveletTiler x = Images.black(8, 8, 8, level);
            int half = 1 << (level - 1);
            x.fill(0, 0, half - 1, half - 1, 255);
            x.fill(half, half, 2 * half - 1, 2 * half - 1, 255);
            int low = 8 >> level;
            Check.due("cross of level " + level, x.coefficient(0, low, low), 510);
            Check.due("band of it", x.band(0, low, low), 10 * level + 3);
            Check.due("across of level " + level, x.coefficient(0, low, 0), 0);
            Check.due("down of level " + level, x.coefficient(0, 0, low), 0);
        }
    }

    /** With all layers a pixel is its own value, whatever the tiles, the levels and the mask are. */
    private static void joiningUndoesSplitting() {
        for (int length = 2; length <= 16; length++) {
            for (int levels = 0; levels <= 3; levels++) {
                WaveletTiler x = Images.black(length, 18 - length, 8, levels);
                for (int i = 0; i < length * (18 - length); i++) {
                    x.set(i % length, i / length, i % 3 == 0 ? i % 2 * 255 : (i * i * 7 + i * 13) % 256);
                }
                String text = length + " by " + (18 - length) + " with levels " + levels;
                Check.due(text, x.meanSquare(9), 0.0);
                x.setting(0, 4);
                Check.due(text + ", a side of 4", x.meanSquare(9), 0.0);
                x.setting(0, 2);
                Check.due(text + ", a side of 2", x.meanSquare(9), 0.0);
                x.setting(2, 8);
                x.mask(0, 0, length - 1, 1, true);
                Check.due(text + ", with a mask", x.meanSquare(9), 0.0);
            }
        }
    }

    // ---- levels

    /**
     * "There is a level only as long as that area has more than 1 column or more than 1 row"; "a tile of a level that
     * could be set but cannot be is split as often as it can".
     */
    private static void levelsOfAllTiles() {
        int[] most = {0, 0, 1, 2, 2, 3, 3, 3, 3};
        for (int width = 1; width <= 8; width++) {
            for (int height = 1; height <= 8; height++) {
                int there = Math.max(most[width], most[height]);
                for (int levels = 0; levels <= 3; levels++) {
                    WaveletTiler x = Images.black(8 + width, 8 + height, 8, levels);
                    String text = width + " by " + height + " with levels " + levels;
                    Check.due(text, x.tile(3, 4), Math.min(there, levels));
                }
            }
        }
        int[][] sides = {{2, 1}, {4, 2}, {8, 3}};
        for (int[] side : sides) {
            WaveletTiler x = Images.black(16, 16, side[0], 3);
            Check.due("levels with a side of " + side[0], x.tile(0, 4), side[1]);
            Check.due("the levels that are set", x.number(3), 3);
        }
    }

    private static final int[][] BANDS = {
        {0}, {0, 11}, {0, 21, 11}, {0, 21, 11, 11}, {0, 31, 21, 11, 11}, {0, 31, 21, 11, 11, 11},
        {0, 31, 21, 21, 11, 11, 11}, {0, 31, 21, 21, 11, 11, 11, 11}};

    /** A row alone has no band but smooth and across, a column alone none but smooth and down. */
    private static void bandsOfAllLengths() {
        for (int length = 1; length <= 8; length++) {
            WaveletTiler x = Images.black(8 + length, 9, 8, 3);
            WaveletTiler y = Images.black(9, 8 + length, 8, 3);
            for (int place = 0; place < length; place++) {
                int across = BANDS[length - 1][place];
                Check.due("band of a row of " + length + " at " + place, x.band(3, place, 0), across);
                Check.due("band of a column of " + length + " at " + place, y.band(3, 0, place),
                        across == 0 ? 0 : across + 1);
            }
        }
    }

    private static void dueBands(WaveletTiler x, int tile, String... due) {
        for (int row = 0; row < due.length; row++) {
            StringBuilder bands = new StringBuilder();
            for (int column = 0; column < x.tile(tile, 2); column++) {
                bands.append(column == 0 ? "" : " ").append(x.band(tile, column, row));
            }
            Check.due("bands of row " + row, bands.toString(), due[row]);
        }
    }

    private static void bandsOfTheLargestTile() {
        dueBands(Images.black(16, 16, 8, 3), 3,
                "0 31 21 21 11 11 11 11", "32 33 21 21 11 11 11 11", "22 22 23 23 11 11 11 11",
                "22 22 23 23 11 11 11 11", "12 12 12 12 13 13 13 13", "12 12 12 12 13 13 13 13",
                "12 12 12 12 13 13 13 13", "12 12 12 12 13 13 13 13");
        dueBands(Images.black(16, 16, 8, 2), 3,
                "0 0 21 21 11 11 11 11", "0 0 21 21 11 11 11 11", "22 22 23 23 11 11 11 11");
        dueBands(Images.black(16, 16, 8, 1), 3, "0 0 0 0 11 11 11 11");
        dueBands(Images.black(13, 11, 8, 3), 3, "0 31 21 11 11", "22 22 23 11 11", "12 12 12 13 13");
        dueBands(Images.black(13, 11, 8, 2), 3, "0 0 21 11 11", "22 22 23 11 11", "12 12 12 13 13");
        dueBands(Images.black(13, 11, 8, 1), 3, "0 0 0 11 11", "0 0 0 11 11", "12 12 12 13 13");
        dueBands(Images.black(11, 13, 8, 3), 3, "0 21 11", "32 21 11", "22 23 11", "12 12 13", "12 12 13");
        dueBands(Images.black(2, 2, 2, 3), 0, "0 11", "12 13");
    }

    /** "Without levels all coefficients are smooth", and each is its pixel's value. */
    private static void bandsWithoutLevels() {
        WaveletTiler x = Images.black(16, 16, 8, 0);
        for (int place = 0; place < 64; place++) {
            x.set(8 + place % 8, 8 + place / 8, 255 - place);
            Check.due("band " + place, x.band(3, place % 8, place / 8), 0);
            Check.due("coefficient " + place, x.coefficient(3, place % 8, place / 8), 255 - place);
        }
    }

    private static void coefficientsOfTheLastTile() {
        WaveletTiler x = Images.black(16, 16, 8, 3);
        x.set(15, 15, 255);
        int[][] due = {{7, 7, 255}, {7, 3, -128}, {3, 7, -127}, {3, 3, 63}, {3, 1, -32}, {1, 3, -31}, {1, 1, 15},
            {1, 0, -8}, {0, 1, -7}, {0, 0, 3}, {6, 7, 0}, {7, 6, 0}, {2, 2, 0}};
        for (int[] c : due) {
            Check.due("coefficient 3 " + c[0] + " " + c[1], x.coefficient(3, c[0], c[1]), c[2]);
        }
        Check.due("coefficients that are not 0", x.tile(3, 7), 10);
        Check.due("of the first tile", x.tile(0, 7), 0);
        x.setting(0, 2);
        int[] last = {63, -128, -127, 255};
        for (int place = 0; place < 4; place++) {
            Check.due("coefficient 63, " + place, x.coefficient(63, place % 2, place / 2), last[place]);
        }
    }

    // ---- masked coefficients

    /** The masked coefficients of a tile as ones, row by row; the greatest boost tells them apart. */
    private static String masked(WaveletTiler x, int tile) {
        x.setting(2, 8);
        StringBuilder text = new StringBuilder();
        for (int row = 0; row < x.tile(tile, 3); row++) {
            for (int column = 0; column < x.tile(tile, 2); column++) {
                text.append(x.layerOf(tile, column, row, 0) == 0 ? '1' : '0');
            }
        }
        return text.toString();
    }

    /** "A coefficient is masked if one of the pixels of which it is made, by splitting, is in the mask." */
    private static void maskedByAnyPixel() {
        for (int pixel = 0; pixel < 64; pixel++) {
            WaveletTiler x = Images.black(8, 8, 8, 3);
            int column = pixel % 8;
            int row = pixel / 8;
            x.mask(column, row, column, row, true);
            char[] due = "0".repeat(64).toCharArray();
            due[0] = '1';
            for (int level = 1; level <= 3; level++) {
                int low = 8 >> level;
                int c = column >> level;
                int r = row >> level;
                due[8 * r + low + c] = '1';
                due[8 * (low + r) + c] = '1';
                due[8 * (low + r) + low + c] = '1';
            }
            Check.due("masked coefficients by pixel " + pixel, x.tile(0, 6), 10);
            Check.due("masked places by pixel " + pixel, masked(x, 0), new String(due));
            x.setting(1, 0);
            Check.due("masked coefficients without levels", x.tile(0, 6), 1);
            Check.due("masked place without levels", masked(x, 0).indexOf('1'), pixel);
        }
    }

    private static final String[][] MASKED = {
        {"1"}, {"11", "11"}, {"111", "111", "110"}, {"1110", "1110", "1101", "1101"},
        {"11110", "11110", "11101", "11101", "11000"},
        {"111100", "111100", "111010", "111010", "110001", "110001"},
        {"1110100", "1110100", "1110010", "1110010", "1101001", "1101001", "1101000"},
        {"11101000", "11101000", "11100100", "11100100", "11010010", "11010010", "11010001", "11010001"}};

    /** A last number without a partner is not part of any high number of that level. */
    private static void maskedByItsOwnPixelsAlone() {
        for (int length = 1; length <= 8; length++) {
            for (int pixel = 0; pixel < length; pixel++) {
                String due = MASKED[length - 1][pixel];
                WaveletTiler x = Images.black(8 + length, 9, 8, 3);
                x.mask(8 + pixel, 8, 8 + pixel, 8, true);
                Check.due("a row of " + length + ", pixel " + pixel, masked(x, 3), due);
                Check.due("their number", x.tile(3, 6), due.replace("0", "").length());
                WaveletTiler y = Images.black(9, 8 + length, 8, 3);
                y.mask(8, 8 + pixel, 8, 8 + pixel, true);
                Check.due("a column of " + length + ", pixel " + pixel, masked(y, 3), due);
            }
        }
    }

    private static void maskedByNoPixelOfAnotherTile() {
        WaveletTiler x = Images.black(9, 9, 4, 2);
        x.mask(0, 0, 8, 8, true);
        x.mask(4, 4, 7, 7, false);
        Check.due("all but tile 4: pixels", x.tile(4, 5), 0);
        Check.due("all but tile 4: coefficients", x.tile(4, 6), 0);
        x.mask(0, 0, 8, 8, false);
        x.mask(4, 4, 7, 7, true);
        for (int tile = 0; tile < 9; tile++) {
            Check.due("tile 4 alone: coefficients of " + tile, x.tile(tile, 6), tile == 4 ? 16 : 0);
        }
    }

    private static void maskedCoefficientsOfEmptyAndFullMask() {
        int[] pixels = {64, 8, 8, 1};
        for (int levels = 0; levels <= 3; levels++) {
            WaveletTiler x = Images.black(9, 9, 8, levels);
            for (int tile = 0; tile < 4; tile++) {
                Check.due("empty mask, levels " + levels, x.tile(tile, 6), 0);
            }
            x.mask(0, 0, 8, 8, true);
            for (int tile = 0; tile < 4; tile++) {
                Check.due("full mask, levels " + levels, x.tile(tile, 6), pixels[tile]);
            }
        }
    }
}
