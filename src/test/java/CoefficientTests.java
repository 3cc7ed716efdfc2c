/** Promises 14 to 20: coefficients, their bands, layers and trees. */
final class CoefficientTests {

    private static final Class<IllegalArgumentException> ARGUMENT = IllegalArgumentException.class;
    private static final Class<IndexOutOfBoundsException> INDEX = IndexOutOfBoundsException.class;

    public static void main(String[] args) {
        promise14Coefficient();
        promise14OddAreas();
        promise14Levels();
        promise15Band();
        promise16LayerOf();
        promise17Bits();
        promise18Descendants();
        promise19Roots();
        promise20Needed();
        Check.end("CoefficientTests");
    }

    private static void dueRow(WaveletTiler x, int tile, int row, int... due) {
        for (int column = 0; column < due.length; column++) {
            Check.due("coefficient " + tile + " " + column + " " + row, x.coefficient(tile, column, row), due[column]);
        }
    }

    private static void promise14Coefficient() {
        WaveletTiler x = new WaveletTiler();
        x.size(4, 2);
        x.setting(0, 2);
        x.setting(1, 1);
        x.set(2, 0, 10);
        x.set(3, 0, 20);
        x.set(2, 1, 30);
        x.set(3, 1, 45);
        dueRow(x, 1, 0, 26, -13);
        dueRow(x, 1, 1, -22, 5);
        dueRow(x, 0, 0, 0, 0);
        x.fill(2, 0, 3, 1, 255);
        x.set(2, 0, 0);
        x.set(3, 1, 0);
        dueRow(x, 1, 0, 127, 0);
        dueRow(x, 1, 1, 0, -510);
        Check.refused("coefficient 2", INDEX, () -> x.coefficient(2, 0, 0));
        Check.refused("coefficient -1", INDEX, () -> x.coefficient(-1, 0, 0));
        Check.refused("coefficient column 2", INDEX, () -> x.coefficient(0, 2, 0));
        Check.refused("coefficient row 2", INDEX, () -> x.coefficient(0, 0, 2));
        Check.refused("coefficient column -1", INDEX, () -> x.coefficient(0, -1, 0));
        Check.refused("coefficient row -1", INDEX, () -> x.coefficient(0, 0, -1));
    }

    private static void promise14OddAreas() {
        WaveletTiler x = Images.small();
        dueRow(x, 0, 0, 65, -125, -2);
        dueRow(x, 0, 1, 6, 253, -2);
        x.setting(1, 1);
        dueRow(x, 0, 0, 3, 128, -2);
        dueRow(x, 0, 1, 6, 253, -2);
        x.setting(1, 0);
        dueRow(x, 0, 0, 5, 8, 255);
        dueRow(x, 0, 1, 0, 1, 2);
        x.setting(1, 3);
        dueRow(x, 0, 0, 65, -125, -2);
    }

    private static void promise14Levels() {
        WaveletTiler x = new WaveletTiler();
        x.size(8, 2);
        x.setting(0, 8);
        x.setting(1, 3);
        for (int column = 0; column < 8; column++) {
            x.fill(column, 0, column, 1, 10 * column);
        }
        dueRow(x, 0, 0, 35, -40, -20, -20, -10, -10, -10, -10);
        dueRow(x, 0, 1, 0, 0, 0, 0, 0, 0, 0, 0);
        x.setting(1, 2);
        dueRow(x, 0, 0, 15, 55, -20, -20, -10, -10, -10, -10);
    }

    private static void promise15Band() {
        WaveletTiler x = new WaveletTiler();
        x.setting(0, 8);
        x.setting(1, 3);
        int[][] due = {{0, 31, 21, 21, 11}, {32, 33, 21, 21, 11}, {22, 22, 23, 23, 11}, {22, 22, 23, 23, 11},
            {12, 12, 12, 12, 13}};
        for (int row = 0; row < 5; row++) {
            for (int column = 0; column < 5; column++) {
                Check.due("band 0 " + column + " " + row, x.band(0, column, row), due[row][column]);
            }
        }
        Check.due("band 0 7 7", x.band(0, 7, 7), 13);
        x.setting(1, 1);
        Check.due("band with one level", x.band(0, 3, 3), 0);
        x.setting(1, 0);
        Check.due("band without levels", x.band(0, 7, 7), 0);
        WaveletTiler y = Images.small();
        int[] odd = {0, 21, 11, 12, 12, 13};
        for (int i = 0; i < 6; i++) {
            Check.due("band of an odd area " + i, y.band(0, i % 3, i / 3), odd[i]);
        }
        Check.refused("band 1", INDEX, () -> y.band(1, 0, 0));
        Check.refused("band column 3", INDEX, () -> y.band(0, 3, 0));
        Check.refused("band row 2", INDEX, () -> y.band(0, 0, 2));
        Check.refused("band -1", INDEX, () -> y.band(-1, -1, -1));
    }

    private static void promise16LayerOf() {
        WaveletTiler x = Images.small();
        Check.due("layerOf plane 8", x.layerOf(0, 0, 0, 8), 0);
        Check.due("layerOf plane 0", x.layerOf(0, 2, 1, 0), 8);
        x.setting(2, 3);
        Check.due("layerOf with a boost but no mask", x.layerOf(0, 0, 0, 2), 6);
        x.mask(2, 1, 2, 1, true);
        Check.due("layerOf smooth", x.layerOf(0, 0, 0, 2), 3);
        Check.due("layerOf across of level 2", x.layerOf(0, 1, 0, 0), 5);
        Check.due("layerOf down", x.layerOf(0, 1, 1, 5), 0);
        Check.due("layerOf not below 0", x.layerOf(0, 1, 1, 8), 0);
        Check.due("layerOf that is not masked", x.layerOf(0, 2, 0, 2), 6);
        Check.due("layerOf that is not masked, down", x.layerOf(0, 0, 1, 2), 6);
        x.setting(2, 8);
        Check.due("layerOf with the greatest boost", x.layerOf(0, 1, 1, 0), 0);
        Check.due("masked coefficients", x.tile(0, 6), 3);
        layerOfInOtherTiles();
        Check.refused("layerOf plane 9", ARGUMENT, () -> x.layerOf(0, 0, 0, 9));
        Check.refused("layerOf plane -1", ARGUMENT, () -> x.layerOf(0, 0, 0, -1));
        Check.refused("layerOf 1", INDEX, () -> x.layerOf(1, 0, 0, 0));
        Check.refused("layerOf column 3", INDEX, () -> x.layerOf(0, 3, 0, 0));
        Check.refused("layerOf row 2: the place comes first", INDEX, () -> x.layerOf(0, 0, 2, 9));
    }

    private static void layerOfInOtherTiles() {
        WaveletTiler x = new WaveletTiler();
        x.setting(2, 1);
        x.mask(6, 5, 6, 5, true);
        StringBuilder layers = new StringBuilder();
        for (int row = 0; row < 4; row++) {
            for (int column = 0; column < 4; column++) {
                layers.append(x.layerOf(3, column, row, 0));
            }
        }
        Check.due("layers of tile 3", layers.toString(), "7787778887878888");
        Check.due("masked coefficients of tile 0", x.tile(0, 6), 0);
    }

    private static void promise17Bits() {
        WaveletTiler x = Images.small();
        int[] due = {60, 6, 7, 8, 6, 6, 6, 7, 8, 6};
        for (int layer = -1; layer <= 8; layer++) {
            Check.due("bits 0 " + layer, x.bits(0, layer), due[layer + 1]);
        }
        x.setting(2, 7);
        x.mask(0, 0, 2, 1, true);
        int[] boosted = {60, 6 * 8 + 6, 6, 0, 0, 0, 0, 0, 0, 0};
        for (int layer = -1; layer <= 8; layer++) {
            Check.due("bits of a masked tile 0 " + layer, x.bits(0, layer), boosted[layer + 1]);
        }
        Check.refused("bits 0 9", ARGUMENT, () -> x.bits(0, 9));
        Check.refused("bits 0 -2", ARGUMENT, () -> x.bits(0, -2));
        Check.refused("bits 1", INDEX, () -> x.bits(1, 0));
        Check.refused("bits -1 9: the tile comes first", INDEX, () -> x.bits(-1, 9));
    }

    private static void promise18Descendants() {
        WaveletTiler x = new WaveletTiler();
        x.setting(0, 8);
        x.setting(1, 3);
        Check.due("descendants smooth", x.descendants(0, 0, 0), 63);
        Check.due("descendants level 3", x.descendants(0, 1, 0), 20);
        Check.due("descendants level 2", x.descendants(0, 3, 3), 4);
        Check.due("descendants level 1", x.descendants(0, 7, 7), 0);
        x.setting(1, 1);
        Check.due("descendants smooth with one level", x.descendants(0, 3, 3), 3);
        x.setting(1, 0);
        Check.due("descendants without levels", x.descendants(0, 0, 0), 0);
        x.setting(1, 2);
        Check.due("descendants down", x.descendants(0, 0, 2), 4);
        Check.due("descendants cross", x.descendants(0, 2, 2), 4);
        x.size(6, 5);
        Check.due("descendants in 6 by 5, smooth", x.descendants(0, 0, 0), 15);
        Check.due("descendants in 6 by 5, smooth without cross or down", x.descendants(0, 1, 1), 0);
        Check.due("descendants in 6 by 5, across", x.descendants(0, 2, 0), 4);
        Check.due("descendants in 6 by 5, lower across", x.descendants(0, 2, 1), 2);
        Check.due("descendants in 6 by 5, down", x.descendants(0, 0, 2), 4);
        Check.due("descendants in 6 by 5, second down", x.descendants(0, 1, 2), 2);
        Check.due("descendants in 6 by 5, cross", x.descendants(0, 2, 2), 4);
        Check.due("descendants in 6 by 5, without a parent", x.descendants(0, 5, 0), 0);
        WaveletTiler y = Images.small();
        int[] odd = {2, 1, 0, 0, 0, 0};
        for (int i = 0; i < 6; i++) {
            Check.due("descendants in an odd area " + i, y.descendants(0, i % 3, i / 3), odd[i]);
        }
        Check.refused("descendants 1", INDEX, () -> y.descendants(1, 0, 0));
        Check.refused("descendants column 3", INDEX, () -> y.descendants(0, 3, 0));
        Check.refused("descendants row -1", INDEX, () -> y.descendants(0, 0, -1));
    }

    private static void promise19Roots() {
        WaveletTiler x = Images.small();
        int[] due = {0, 0, 2, 3, 3, 3, 3, 3, 4, 4};
        for (int plane = 0; plane < 10; plane++) {
            Check.due("roots 0 " + plane, x.roots(0, plane), due[plane]);
        }
        x.setting(1, 0);
        Check.due("roots without levels", x.roots(0, 3), 4);
        x.size(8, 8);
        x.setting(0, 8);
        x.setting(1, 3);
        Check.due("roots of a black tile", x.roots(0, 0), 1);
        x.set(1, 0, 1);
        x.fill(2, 1, 3, 1, 1);
        Check.due("roots below three loud branches", x.roots(0, 0), 18);
        Check.due("roots at the plane above", x.roots(0, 1), 1);
        x.size(6, 5);
        Check.due("roots of a black tile of 6 by 5", x.roots(0, 0), 6);
        Check.refused("roots 0 10", ARGUMENT, () -> x.roots(0, 10));
        Check.refused("roots 0 -1", ARGUMENT, () -> x.roots(0, -1));
        Check.refused("roots 1", INDEX, () -> x.roots(1, 0));
        Check.refused("roots -1 10: the tile comes first", INDEX, () -> x.roots(-1, 10));
    }

    private static void promise20Needed() {
        WaveletTiler x = new WaveletTiler();
        x.setting(0, 8);
        x.setting(1, 3);
        Check.due("needed 7 7", x.needed(7, 7), 10);
        x.setting(1, 0);
        Check.due("needed without levels", x.needed(7, 7), 1);
        WaveletTiler y = Images.small();
        Check.due("needed 0 0", y.needed(0, 0), 5);
        Check.due("needed 1 1", y.needed(1, 1), 5);
        Check.due("needed 2 0", y.needed(2, 0), 3);
        y.size(2, 5);
        y.setting(0, 8);
        y.setting(1, 3);
        int[] tall = {6, 6, 6, 6, 3};
        for (int row = 0; row < 5; row++) {
            Check.due("needed in a tile of 2 by 5, row " + row, y.needed(1, row), tall[row]);
        }
        y.size(5, 2);
        for (int column = 0; column < 5; column++) {
            Check.due("needed in a tile of 5 by 2, column " + column, y.needed(column, 1), tall[column]);
        }
        y.setting(0, 4);
        y.setting(1, 2);
        y.size(7, 7);
        Check.due("needed in the last tile", y.needed(5, 6), 5);
        Check.due("needed in the last tile, its last pixel", y.needed(6, 6), 4);
        Check.due("needed in the last tile, its first pixel", y.needed(4, 4), 7);
        y.size(5, 5);
        Check.due("needed in a tile of one pixel", y.needed(4, 4), 1);
        Check.due("needed in a tile of 1 by 4", y.needed(4, 0), 3);
        Check.refused("needed 5 0", INDEX, () -> y.needed(5, 0));
        Check.refused("needed 0 5", INDEX, () -> y.needed(0, 5));
        Check.refused("needed -1 0", INDEX, () -> y.needed(-1, 0));
    }
}
