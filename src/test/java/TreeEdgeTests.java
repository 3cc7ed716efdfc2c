/** The sentences of "Trees", and of promises 18 to 20, at their edges. */
final class TreeEdgeTests {

    public static void main(String[] args) {
        descendantsOfTheLargestTile();
        descendantsOfRowsAndColumns();
        descendantsAtTheEdgesOfBands();
        descendantsOfOneLevel();
        descendantsWithoutLevels();
        childrenAreOfTheSameKind();
        quietAtThePlaneAboveTheAmount();
        quietIfAllDescendantsAre();
        rootsOfGreatestAmounts();
        rootsAreNoChildrenOfQuietOnes();
        rootsWithoutAParent();
        rootsOfRowsAndColumns();
        rootsOfFirstAndLastTile();
        neededOfRowsAndColumns();
        neededOfSquares();
        neededWhateverItIs();
        Check.end("TreeEdgeTests");
    }

    private static void dueDescendants(String text, WaveletTiler x, int tile, int... due) {
        int width = x.tile(tile, 2);
        for (int i = 0; i < due.length; i++) {
            Check.due(text + ": descendants at " + i, x.descendants(tile, i % width, i / width), due[i]);
        }
    }

    private static void descendantsOfTheLargestTile() {
        int[] due = {63, 20, 4, 4, 0, 0, 0, 0, 20, 20, 4, 4, 0, 0, 0, 0, 4, 4, 4, 4, 0, 0, 0, 0, 4, 4, 4, 4, 0, 0, 0, 0,
            0, 0, 0, 0, 0, 0, 0, 0, 0, 0, 0, 0, 0, 0, 0, 0, 0, 0, 0, 0, 0, 0, 0, 0, 0, 0, 0, 0, 0, 0, 0, 0};
        dueDescendants("8 by 8, first tile", Images.black(16, 16, 8, 3), 0, due);
        dueDescendants("8 by 8, last tile", Images.black(16, 16, 8, 3), 3, due);
        dueDescendants("2 by 2, last tile", Images.black(16, 16, 2, 3), 63, 3, 0, 0, 0);
        dueDescendants("4 by 4", Images.black(16, 16, 4, 3), 15, 15, 4, 0, 0, 4, 4, 0, 0, 0, 0, 0, 0, 0, 0, 0, 0);
    }

    private static final int[][] DESCENDANTS = {
        {0}, {1, 0}, {2, 1, 0}, {3, 2, 0, 0}, {4, 3, 2, 0, 0}, {4, 3, 2, 0, 0, 0}, {6, 5, 2, 1, 0, 0, 0},
        {7, 6, 2, 2, 0, 0, 0, 0}};

    /** "As far as there are some": tiles of one row or one column have bands of one kind alone. */
    private static void descendantsOfRowsAndColumns() {
        for (int length = 1; length <= 8; length++) {
            dueDescendants("a row of " + length, Images.black(8 + length, 9, 8, 3), 3, DESCENDANTS[length - 1]);
            dueDescendants("a column of " + length, Images.black(9, 8 + length, 8, 3), 3, DESCENDANTS[length - 1]);
        }
    }

    /** In a tile of 5 by 3, lengths 5, 3, 2, 1 and 3, 2, 1, 1, many children are missing. */
    private static void descendantsAtTheEdgesOfBands() {
        dueDescendants("5 by 3, 3 levels", Images.black(13, 11, 8, 3), 3,
                6, 5, 4, 0, 0, 2, 1, 2, 0, 0, 0, 0, 0, 0, 0);
        dueDescendants("5 by 3, 2 levels", Images.black(13, 11, 8, 2), 3,
                11, 2, 4, 0, 0, 2, 1, 2, 0, 0, 0, 0, 0, 0, 0);
        dueDescendants("5 by 3, 1 level", Images.black(13, 11, 8, 1), 3,
                3, 3, 1, 0, 0, 1, 1, 0, 0, 0, 0, 0, 0, 0, 0);
        dueDescendants("3 by 3, 2 levels", Images.black(7, 7, 4, 2), 3, 8, 2, 0, 2, 1, 0, 0, 0, 0);
    }

    private static void descendantsOfOneLevel() {
        WaveletTiler x = Images.black(16, 16, 8, 1);
        for (int place = 0; place < 64; place++) {
            int due = place % 8 < 4 && place / 8 < 4 ? 3 : 0;
            Check.due("one level: descendants at " + place, x.descendants(3, place % 8, place / 8), due);
        }
    }

    /** "Without levels all coefficients are smooth and have no children." */
    private static void descendantsWithoutLevels() {
        WaveletTiler x = Images.black(16, 16, 8, 0);
        for (int place = 0; place < 64; place++) {
            Check.due("no levels: descendants at " + place, x.descendants(3, place % 8, place / 8), 0);
        }
        Check.due("no levels: roots", x.roots(3, 0), 64);
        Check.due("one pixel: descendants", Images.black(9, 9, 8, 3).descendants(3, 0, 0), 0);
        Check.due("one pixel: roots", Images.black(9, 9, 8, 3).roots(3, 0), 1);
    }

    /** A loud coefficient of level 1 makes those loud of which it is a descendant, and no other ones. */
    private static void childrenAreOfTheSameKind() {
        // Only the highs of level 1 of the first two rows and columns are not 0: across, down and cross in turn.
        int[][] values = {{129, 127, 129, 127}, {129, 129, 127, 127}, {129, 127, 127, 129}};
        for (int kind = 0; kind < 3; kind++) {
            for (int place = 0; place < 16; place++) {
                WaveletTiler x = new WaveletTiler();
                x.size(8, 8);
                x.setting(0, 8);
                x.setting(1, 3);
                x.fill(0, 0, 7, 7, 128);
                int column = place % 4;
                int row = place / 4;
                for (int i = 0; i < 4; i++) {
                    x.set(2 * column + i % 2, 2 * row + i / 2, values[kind][i]);
                }
                int c = kind == 1 ? column : 4 + column;
                int r = kind == 0 ? row : 4 + row;
                Check.due("the loud one", x.coefficient(0, c, r), kind == 2 ? 4 : 2);
                Check.due("coefficients that are not 0", x.tile(0, 7), 2);
                // Quiet at plane 1 are all but the loud one and its three ancestors, whose other children are roots.
                Check.due("roots above kind " + kind + " at " + place, x.roots(0, 1), 2 + 3 + 3);
            }
        }
    }

    // ---- roots

    /** "Less than 2 to the power of the plane." */
    private static void quietAtThePlaneAboveTheAmount() {
        int[] amounts = {0, 1, 2, 3, 4, 7, 8, 15, 16, 31, 32, 63, 64, 127, 128, 255};
        int[] planes = {0, 1, 2, 2, 3, 3, 4, 4, 5, 5, 6, 6, 7, 7, 8, 8};
        for (int i = 0; i < amounts.length; i++) {
            WaveletTiler x = Images.black(9, 9, 8, 3);
            x.set(8, 8, amounts[i]);
            for (int plane = 0; plane <= 9; plane++) {
                int due = plane >= planes[i] ? 1 : 0;
                Check.due("roots of " + amounts[i] + " at plane " + plane, x.roots(3, plane), due);
            }
        }
    }

    private static WaveletTiler square(int... values) {
        WaveletTiler x = Images.black(2, 2, 2, 1);
        Images.paint(x, 0, values);
        return x;
    }

    private static void dueRoots(String text, WaveletTiler x, int tile, int... due) {
        for (int plane = 0; plane <= 9; plane++) {
            Check.due(text + ": roots at plane " + plane, x.roots(tile, plane), due[plane]);
        }
    }

    /** The smooth one is loud as long as one of the other three is, whichever and of whatever sign. */
    private static void quietIfAllDescendantsAre() {
        dueRoots("all quiet", square(0, 0, 0, 0), 0, 1, 1, 1, 1, 1, 1, 1, 1, 1, 1);
        dueRoots("smooth 0, across 0, down -1, cross 2", square(1, 0, 1, 2), 0, 1, 2, 1, 1, 1, 1, 1, 1, 1, 1);
        dueRoots("smooth 1, across 2, down 0, cross 0", square(2, 0, 2, 0), 0, 2, 2, 1, 1, 1, 1, 1, 1, 1, 1);
        dueRoots("smooth 1, across -2, down 0, cross 0", square(0, 2, 0, 2), 0, 2, 2, 1, 1, 1, 1, 1, 1, 1, 1);
        dueRoots("smooth 1, down -2", square(0, 0, 2, 2), 0, 2, 2, 1, 1, 1, 1, 1, 1, 1, 1);
        dueRoots("smooth 5", square(5, 5, 5, 5), 0, 3, 3, 3, 1, 1, 1, 1, 1, 1, 1);
    }

    /** Plane 9 is above all amounts, so that every tree is one root there. */
    private static void rootsOfGreatestAmounts() {
        dueRoots("cross -510", square(0, 255, 255, 0), 0, 2, 2, 2, 2, 2, 2, 2, 2, 2, 1);
        dueRoots("cross 256", square(128, 0, 0, 128), 0, 2, 2, 2, 2, 2, 2, 2, 2, 2, 1);
        dueRoots("cross 255", square(128, 0, 0, 127), 0, 1, 2, 2, 2, 2, 2, 2, 2, 1, 1);
    }

    /** A black tile of 8 by 8 is one tree; with a loud smooth one its three children are the roots. */
    private static void rootsAreNoChildrenOfQuietOnes() {
        WaveletTiler x = Images.black(8, 8, 8, 3);
        dueRoots("black", x, 0, 1, 1, 1, 1, 1, 1, 1, 1, 1, 1);
        x.fill(0, 0, 7, 7, 255);
        dueRoots("white", x, 0, 3, 3, 3, 3, 3, 3, 3, 3, 1, 1);
        x.setting(1, 2);
        dueRoots("white with 2 levels", x, 0, 12, 12, 12, 12, 12, 12, 12, 12, 4, 4);
        x.setting(1, 0);
        dueRoots("white without levels", x, 0, 0, 0, 0, 0, 0, 0, 0, 0, 64, 64);
    }

    /** Coefficients that are nobody's children are no children of quiet ones: each tree of its own has a root. */
    private static void rootsWithoutAParent() {
        int[] due = {1, 1, 1, 1, 1, 2, 1, 1};
        for (int length = 1; length <= 8; length++) {
            Check.due("roots of a row of " + length, Images.black(8 + length, 9, 8, 3).roots(3, 0), due[length - 1]);
            Check.due("roots of a column of " + length, Images.black(9, 8 + length, 8, 3).roots(3, 0), due[length - 1]);
        }
        Check.due("roots of 5 by 3 with 3 levels", Images.black(13, 11, 8, 3).roots(3, 0), 4);
        Check.due("roots of 5 by 3 with 2 levels", Images.black(13, 11, 8, 2).roots(3, 0), 2);
        Check.due("roots of 5 by 3 with 1 level", Images.black(13, 11, 8, 1).roots(3, 0), 6);
    }

    /** The rows and columns of powers of 2 whose coefficients SplittingEdgeTests tells. */
    private static void rootsOfRowsAndColumns() {
        int[] values = {1, 2, 4, 8, 16, 32, 64, 128};
        int[][] due = {{0, 1, 1, 1, 1, 2, 2, 2, 2, 2}, {0, 1, 1, 1, 1, 2, 1, 1, 1, 1}, {0, 1, 1, 1, 1, 2, 2, 1, 1, 1}};
        for (int length = 6; length <= 8; length++) {
            WaveletTiler x = Images.black(8 + length, 9, 8, 3);
            Images.paint(x, 3, java.util.Arrays.copyOf(values, length));
            dueRoots("a row of " + length, x, 3, due[length - 6]);
            WaveletTiler y = Images.black(9, 8 + length, 8, 3);
            Images.paint(y, 3, java.util.Arrays.copyOf(values, length));
            dueRoots("a column of " + length, y, 3, due[length - 6]);
        }
    }

    private static void rootsOfFirstAndLastTile() {
        WaveletTiler x = Images.black(16, 16, 2, 1);
        x.fill(14, 14, 15, 15, 255);
        Check.due("roots of the first tile", x.roots(0, 0), 1);
        Check.due("roots of the last tile", x.roots(63, 0), 3);
        Check.due("roots of the tile ahead of it", x.roots(62, 0), 1);
        Check.due("roots of the last tile at plane 8", x.roots(63, 8), 1);
    }

    // ---- needed

    private static final int[][] NEEDED = {
        {1}, {2, 2}, {3, 3, 2}, {3, 3, 3, 3}, {4, 4, 4, 4, 2}, {4, 4, 4, 4, 3, 3}, {4, 4, 4, 4, 4, 4, 3},
        {4, 4, 4, 4, 4, 4, 4, 4}};

    private static void neededOfRowsAndColumns() {
        for (int length = 1; length <= 8; length++) {
            WaveletTiler x = Images.black(8 + length, 9, 8, 3);
            WaveletTiler y = Images.black(9, 8 + length, 8, 3);
            for (int i = 0; i < length; i++) {
                int due = NEEDED[length - 1][i];
                Check.due("needed in a row of " + length + ", pixel " + i, x.needed(8 + i, 8), due);
                Check.due("needed in a column of " + length + ", pixel " + i, y.needed(8, 8 + i), due);
            }
        }
    }

    private static void neededOfSquares() {
        int[] due = {1, 4, 7, 10};
        for (int levels = 0; levels <= 3; levels++) {
            WaveletTiler x = Images.black(16, 16, 8, levels);
            for (int pixel = 0; pixel < 256; pixel++) {
                Check.due("needed by pixel " + pixel + " with levels " + levels, x.needed(pixel % 16, pixel / 16),
                        due[levels]);
            }
            WaveletTiler y = Images.black(2, 2, 2, levels);
            Check.due("needed by the last pixel of 2 by 2", y.needed(1, 1), due[Math.min(levels, 1)]);
        }
        WaveletTiler z = Images.black(7, 7, 4, 2);
        int[] odd = {7, 7, 5, 7, 7, 5, 5, 5, 4};
        for (int i = 0; i < 9; i++) {
            Check.due("needed in 3 by 3, pixel " + i, z.needed(4 + i % 3, 4 + i / 3), odd[i]);
        }
    }

    /** "A coefficient is needed if joining looks at it, whatever it is." */
    private static void neededWhateverItIs() {
        WaveletTiler x = Images.black(8, 8, 8, 3);
        Check.due("needed in black", x.needed(7, 7), 10);
        x.set(7, 7, 255);
        Check.due("needed in what is not black", x.needed(7, 7), 10);
        x.setting(2, 8);
        x.mask(0, 0, 7, 7, true);
        Check.due("needed with a mask", x.needed(7, 7), 10);
        x.soften(0, 0);
        Check.due("needed in what was softened", x.needed(0, 0), 10);
    }
}
