/** The sentences of "Layers", "Decoding" and "Bounds", and of promises 16, 17 and 21 to 23, at their edges. */
final class LayerEdgeTests {

    public static void main(String[] args) {
        planesOfUnmaskedCoefficients();
        planesOfMaskedCoefficients();
        signOfTheHighestPlane();
        signsOfTheGreatestAmounts();
        bitsOfEmptyAndFullMask();
        bitsOfPartlyMaskedTiles();
        bitsOfTilesOfAllSizes();
        noLayersAreBlack();
        allLayersAreWhole();
        eachLayerBringsAPlane();
        amountsKeepTheirSigns();
        valuesAreCutToBothEnds();
        valuesAreCutAtTheEndAlone();
        lastLevelIsJoinedFirst();
        differencesHaveNoSign();
        worstOfOnePixel();
        worstOfItsTileAlone();
        boundOfOnePixel();
        boundOfTwoPixels();
        boundOfSquares();
        boundOfMaskedTiles();
        doubtOfALastLowNumber();
        boundIsOfItsTileWhateverTheValues();
        meanSquareOfSmallestAndLargest();
        meanSquareIsAQuotient();
        Check.end("LayerEdgeTests");
    }

    private static WaveletTiler square(int levels, int... values) {
        WaveletTiler x = Images.black(2, 2, 2, levels);
        Images.paint(x, 0, values);
        return x;
    }

    // ---- layers

    /** "Plane p of a coefficient is in layer 8 - p", whatever the boost is. */
    private static void planesOfUnmaskedCoefficients() {
        WaveletTiler x = Images.black(16, 16, 8, 3);
        for (int boost = 0; boost <= 8; boost++) {
            x.setting(2, boost);
            for (int plane = 0; plane <= 8; plane++) {
                String text = "plane " + plane + " with boost " + boost;
                Check.due(text + ", the first place", x.layerOf(0, 0, 0, plane), 8 - plane);
                Check.due(text + ", the last place", x.layerOf(3, 7, 7, plane), 8 - plane);
            }
        }
    }

    /** "If the coefficient is masked, in layer 8 - p minus the boost, but not below layer 0." */
    private static void planesOfMaskedCoefficients() {
        int[][] due = {{8, 7, 6, 5, 4, 3, 2, 1, 0}, {7, 6, 5, 4, 3, 2, 1, 0, 0}, {6, 5, 4, 3, 2, 1, 0, 0, 0},
            {5, 4, 3, 2, 1, 0, 0, 0, 0}, {4, 3, 2, 1, 0, 0, 0, 0, 0}, {3, 2, 1, 0, 0, 0, 0, 0, 0},
            {2, 1, 0, 0, 0, 0, 0, 0, 0}, {1, 0, 0, 0, 0, 0, 0, 0, 0}, {0, 0, 0, 0, 0, 0, 0, 0, 0}};
        WaveletTiler x = Images.black(16, 16, 8, 3);
        x.mask(0, 0, 0, 0, true);
        x.mask(15, 15, 15, 15, true);
        for (int boost = 0; boost <= 8; boost++) {
            x.setting(2, boost);
            for (int plane = 0; plane <= 8; plane++) {
                String text = "masked, plane " + plane + " with boost " + boost;
                Check.due(text + ", the first place", x.layerOf(0, 0, 0, plane), due[boost][plane]);
                Check.due(text + ", the last place", x.layerOf(3, 7, 7, plane), due[boost][plane]);
            }
        }
    }

    /** "1 more for the sign if that plane is the highest one of the coefficient that is 1"; 0 has no sign. */
    private static void signOfTheHighestPlane() {
        for (int value = 0; value <= 255; value++) {
            WaveletTiler x = Images.black(3, 3, 2, 0);
            x.set(2, 2, value);
            int signed = value == 0 ? 9 : 8 - (31 - Integer.numberOfLeadingZeros(value));
            for (int layer = 0; layer <= 8; layer++) {
                Check.due("bits of " + value + " in layer " + layer, x.bits(3, layer), layer == signed ? 2 : 1);
            }
            Check.due("bits of " + value, x.bits(3, -1), value == 0 ? 9 : 10);
        }
    }

    private static void dueBits(String text, WaveletTiler x, int tile, int... due) {
        int sum = 0;
        for (int layer = 0; layer <= 8; layer++) {
            Check.due(text + ": bits of layer " + layer, x.bits(tile, layer), due[layer]);
            sum += due[layer];
        }
        Check.due(text + ": bits of all layers", x.bits(tile, -1), sum);
    }

    /** Amounts of 255, 256 and 510, above and below 0, next to a smooth 63, 64 or 127. */
    private static void signsOfTheGreatestAmounts() {
        dueBits("cross 255", square(1, 128, 0, 0, 127), 0, 4, 5, 4, 5, 4, 4, 4, 4, 5);
        dueBits("cross 256", square(1, 128, 0, 0, 128), 0, 5, 4, 5, 4, 4, 4, 4, 4, 4);
        dueBits("cross -256", square(1, 0, 128, 128, 0), 0, 5, 4, 5, 4, 4, 4, 4, 4, 4);
        dueBits("cross 510", square(1, 255, 0, 0, 255), 0, 5, 4, 5, 4, 4, 4, 4, 4, 4);
        dueBits("cross -510", square(1, 0, 255, 255, 0), 0, 5, 4, 5, 4, 4, 4, 4, 4, 4);
        dueBits("across -1 and cross -1", square(1, 0, 1, 0, 0), 0, 4, 4, 4, 4, 4, 4, 4, 4, 6);
    }

    private static void bitsOfEmptyAndFullMask() {
        int[][] black = {{16, 16, 16, 16, 16, 16, 16, 16, 16}, {32, 16, 16, 16, 16, 16, 16, 16, 0},
            {48, 16, 16, 16, 16, 16, 16, 0, 0}, {64, 16, 16, 16, 16, 16, 0, 0, 0}, {80, 16, 16, 16, 16, 0, 0, 0, 0},
            {96, 16, 16, 16, 0, 0, 0, 0, 0}, {112, 16, 16, 0, 0, 0, 0, 0, 0}, {128, 16, 0, 0, 0, 0, 0, 0, 0},
            {144, 0, 0, 0, 0, 0, 0, 0, 0}};
        for (int boost = 0; boost <= 8; boost++) {
            WaveletTiler x = new WaveletTiler();
            x.setting(2, boost);
            dueBits("empty mask with boost " + boost, x, 3, black[0]);
            x.mask(0, 0, 7, 7, true);
            dueBits("full mask with boost " + boost, x, 3, black[boost]);
            x.setting(1, 0);
            x.fill(4, 4, 7, 7, 1);
            int[] white = black[boost].clone();
            white[8 - boost] += 16;
            dueBits("full mask of ones with boost " + boost, x, 3, white);
        }
    }

    private static void bitsOfPartlyMaskedTiles() {
        WaveletTiler x = square(0, 0, 0, 0, 0);
        x.setting(2, 8);
        x.mask(1, 1, 1, 1, true);
        dueBits("one of four", x, 0, 12, 3, 3, 3, 3, 3, 3, 3, 3);
        x.setting(2, 1);
        dueBits("one of four, boost 1", x, 0, 5, 4, 4, 4, 4, 4, 4, 4, 3);
        x.set(1, 1, 2);
        dueBits("one of four with a sign", x, 0, 5, 4, 4, 4, 4, 4, 5, 4, 3);
        x.set(0, 0, 2);
        dueBits("a sign that is not masked, too", x, 0, 5, 4, 4, 4, 4, 4, 5, 5, 3);
        x.setting(1, 1);
        dueBits("all of four by splitting", x, 0, 8, 4, 4, 4, 4, 5, 4, 5, 0);
    }

    private static void bitsOfTilesOfAllSizes() {
        WaveletTiler x = Images.black(9, 9, 8, 3);
        int[] pixels = {64, 8, 8, 1};
        for (int tile = 0; tile < 4; tile++) {
            int n = pixels[tile];
            dueBits("black tile " + tile, x, tile, n, n, n, n, n, n, n, n, n);
        }
        x.fill(0, 0, 8, 8, 255);
        for (int tile = 0; tile < 4; tile++) {
            int n = pixels[tile];
            dueBits("white tile " + tile, x, tile, n, n + 1, n, n, n, n, n, n, n);
        }
        x.setting(1, 0);
        dueBits("white tile without levels", x, 0, 64, 128, 64, 64, 64, 64, 64, 64, 64);
    }

    // ---- decoding

    private static void dueDecoded(String text, WaveletTiler x, int layers, int... due) {
        int columns = x.number(0);
        for (int i = 0; i < due.length; i++) {
            String pixel = text + ": decoded " + layers + ", pixel " + i;
            Check.due(pixel, x.decoded(layers, i % columns, i / columns), due[i]);
        }
    }

    /** With 0 layers all planes are missing, also those that a boost puts into the first layer. */
    private static void noLayersAreBlack() {
        for (int boost = 0; boost <= 8; boost += 8) {
            WaveletTiler x = Images.black(9, 9, 8, 3);
            x.fill(0, 0, 8, 8, 255);
            x.mask(0, 0, 8, 8, true);
            x.setting(2, boost);
            int[][] pixels = {{0, 0}, {7, 7}, {8, 0}, {8, 7}, {0, 8}, {7, 8}, {8, 8}};
            for (int[] pixel : pixels) {
                Check.due("decoded 0, boost " + boost, x.decoded(0, pixel[0], pixel[1]), 0);
            }
            for (int tile = 0; tile < 4; tile++) {
                Check.due("worst 0, boost " + boost, x.worst(0, tile, false), 255);
            }
            Check.due("meanSquare 0, boost " + boost, x.meanSquare(0), 65025.0);
        }
    }

    private static void allLayersAreWhole() {
        for (int boost = 0; boost <= 8; boost += 4) {
            WaveletTiler x = Images.black(9, 9, 8, 3);
            for (int i = 0; i < 81; i++) {
                x.set(i % 9, i / 9, (i * 97 + i / 9 * 31) % 256);
            }
            x.mask(4, 0, 8, 4, true);
            x.setting(2, boost);
            for (int i = 0; i < 81; i++) {
                Check.due("decoded 9, pixel " + i, x.decoded(9, i % 9, i / 9), (i * 97 + i / 9 * 31) % 256);
            }
            for (int tile = 0; tile < 4; tile++) {
                Check.due("worst 9, tile " + tile, x.worst(9, tile, false), 0);
                Check.due("bound 9, tile " + tile, x.worst(9, tile, true), 0);
            }
        }
    }

    /** "All planes in the layers from n on are taken as 0." */
    private static void eachLayerBringsAPlane() {
        int[] due = {0, 0, 128, 192, 224, 240, 248, 252, 254, 255};
        int[] odd = {0, 0, 128, 128, 160, 160, 168, 168, 170, 170};
        int[][] boosted = {
            {0, 0, 128, 192, 224, 240, 248, 252, 254, 255}, {0, 128, 192, 224, 240, 248, 252, 254, 255, 255},
            {0, 254, 255, 255, 255, 255, 255, 255, 255, 255}, {0, 255, 255, 255, 255, 255, 255, 255, 255, 255}};
        int[] boosts = {0, 1, 7, 8};
        for (int layers = 0; layers <= 9; layers++) {
            dueDecoded("no levels", square(0, 255, 170, 0, 1), layers, due[layers], odd[layers], 0, layers / 9);
            for (int i = 0; i < boosts.length; i++) {
                WaveletTiler x = square(0, 255, 255, 255, 255);
                x.mask(1, 1, 1, 1, true);
                x.setting(2, boosts[i]);
                int rest = due[layers];
                dueDecoded("boost " + boosts[i], x, layers, rest, rest, rest, boosted[i][layers]);
            }
        }
    }

    /** A coefficient of -255 becomes -254 without its lowest plane, and not -256. */
    private static void amountsKeepTheirSigns() {
        WaveletTiler x = Images.black(4, 2, 4, 1);
        x.fill(1, 0, 1, 1, 3);
        x.fill(2, 0, 2, 1, 3);
        dueDecoded("across -3 and 3", x, 8, 0, 1, 1, 0, 0, 1, 1, 0);
        WaveletTiler y = Images.black(9, 5, 4, 2);
        Images.paint(y, 3, 2, 2, 0, 255);
        int[] due = {2, 2, 0, 253};
        for (int column = 0; column < 4; column++) {
            Check.due("across -255, pixel " + column, y.decoded(8, column, 4), due[column]);
        }
    }

    /** "Values below 0 become 0, and those above 255 become 255." */
    private static void valuesAreCutToBothEnds() {
        dueDecoded("256 is cut", square(1, 0, 2, 255, 255), 8, 1, 2, 255, 255);
        dueDecoded("-64 is cut", square(1, 255, 0, 0, 255), 1, 64, 0, 0, 64);
        dueDecoded("-1 is cut", square(1, 0, 1, 0, 1), 8, 0, 0, 0, 0);
        Check.due("worst of what is cut", square(1, 0, 2, 255, 255).worst(8, 0, false), 1);
        Check.due("worst of what is cut below", square(1, 255, 0, 0, 255).worst(1, 0, false), 191);
    }

    /** "Values are cut to 0 and 255 at the end of decoding alone": level 2 is joined to 42 and -2 here. */
    private static void valuesAreCutAtTheEndAlone() {
        WaveletTiler x = Images.black(4, 2, 4, 2);
        Images.paint(x, 0, 184, 1, 0, 4);
        dueDecoded("-2 between", x, 7, 177, 0, 0, 0, 0, 0, 0, 0);
        WaveletTiler y = Images.black(3, 3, 4, 2);
        Images.paint(y, 0, 19, 255, 195, 6, 0, 0, 6, 255, 3);
        dueDecoded("below 0 between", y, 2, 0, 64, 96, 0, 0, 0, 0, 96, 0);
    }

    private static void lastLevelIsJoinedFirst() {
        WaveletTiler x = Images.black(4, 2, 4, 2);
        Images.paint(x, 0, 255, 255, 255, 0, 255, 255, 255, 0);
        dueDecoded("two levels", x, 6, 248, 248, 244, 0, 248, 248, 244, 0);
    }

    private static void differencesHaveNoSign() {
        WaveletTiler x = square(1, 0, 255, 255, 27);
        dueDecoded("greater by 1", x, 8, 0, 255, 255, 28);
        Check.due("worst of what is greater", x.worst(8, 0, false), 1);
        Check.due("meanSquare of what is greater", x.meanSquare(8), 0.25);
        Check.due("soften to what is greater", x.soften(0, 8), 1);
        Check.due("softened", x.pixel(1, 1), 28);
    }

    /** "The worst difference of a tile is the greatest one of its pixels", be it the first or the last one. */
    private static void worstOfOnePixel() {
        for (int tile = 0; tile < 4; tile++) {
            for (int corner = 0; corner < 4; corner++) {
                WaveletTiler x = Images.black(16, 16, 8, 0);
                int column = x.tile(tile, 0) + corner % 2 * 7;
                int row = x.tile(tile, 1) + corner / 2 * 7;
                x.fill(0, 0, 15, 15, 1);
                x.set(column, row, 200);
                for (int other = 0; other < 4; other++) {
                    Check.due("worst of tile " + other, x.worst(0, other, false), other == tile ? 200 : 1);
                }
                Check.due("worst with 8 layers", x.worst(8, tile, false), 1);
            }
        }
    }

    private static void worstOfItsTileAlone() {
        WaveletTiler x = Images.black(9, 9, 8, 3);
        x.set(8, 8, 255);
        int[] due = {255, 255, 127, 63, 31, 15, 7, 3, 1, 0};
        for (int layers = 0; layers <= 9; layers++) {
            Check.due("worst of one pixel, " + layers, x.worst(layers, 3, false), due[layers]);
            Check.due("worst of a black tile, " + layers, x.worst(layers, 0, false), 0);
        }
    }

    // ---- bounds

    private static void dueBounds(String text, WaveletTiler x, int tile, int... due) {
        for (int layers = 0; layers <= 9; layers++) {
            Check.due(text + ": bound " + layers, x.worst(layers, tile, true), due[layers]);
        }
    }

    /** "2 to the power of q, minus 1", "at most 255". */
    private static void boundOfOnePixel() {
        dueBounds("one pixel", Images.black(9, 9, 8, 3), 3, 255, 255, 127, 63, 31, 15, 7, 3, 1, 0);
        dueBounds("no levels", Images.black(16, 16, 8, 0), 3, 255, 255, 127, 63, 31, 15, 7, 3, 1, 0);
        dueBounds("no levels in the smallest image", Images.black(2, 2, 2, 0), 0,
                255, 255, 127, 63, 31, 15, 7, 3, 1, 0);
    }

    /** "That of the low one plus half of that of the high one, rounded up." */
    private static void boundOfTwoPixels() {
        dueBounds("two in a row", Images.black(4, 3, 2, 1), 2, 255, 255, 191, 95, 47, 23, 11, 5, 2, 0);
        dueBounds("two in a column", Images.black(3, 4, 2, 1), 1, 255, 255, 191, 95, 47, 23, 11, 5, 2, 0);
    }

    private static void boundOfSquares() {
        dueBounds("2 by 2", Images.black(16, 16, 2, 3), 63, 255, 255, 255, 143, 71, 35, 17, 8, 3, 0);
        dueBounds("8 by 8, one level", Images.black(16, 16, 8, 1), 3, 255, 255, 255, 143, 71, 35, 17, 8, 3, 0);
        dueBounds("8 by 8, three levels", Images.black(16, 16, 8, 3), 3, 255, 255, 255, 255, 151, 75, 37, 18, 7, 0);
    }

    /** The boost takes planes out of the missing layers, but none out of no layers. */
    private static void boundOfMaskedTiles() {
        WaveletTiler x = Images.black(9, 9, 8, 3);
        x.mask(0, 0, 8, 8, true);
        dueBounds("full mask without a boost", x, 3, 255, 255, 127, 63, 31, 15, 7, 3, 1, 0);
        x.setting(2, 1);
        dueBounds("full mask with boost 1", x, 3, 255, 127, 63, 31, 15, 7, 3, 1, 0, 0);
        x.setting(2, 3);
        dueBounds("full mask with boost 3", x, 3, 255, 31, 15, 7, 3, 1, 0, 0, 0, 0);
        x.setting(2, 8);
        dueBounds("full mask with boost 8", x, 3, 255, 0, 0, 0, 0, 0, 0, 0, 0, 0);
        x.mask(0, 0, 8, 8, false);
        dueBounds("empty mask with boost 8", x, 3, 255, 255, 127, 63, 31, 15, 7, 3, 1, 0);
        WaveletTiler y = Images.black(2, 2, 2, 0);
        y.setting(2, 8);
        y.mask(0, 0, 1, 0, true);
        y.mask(0, 0, 0, 1, true);
        dueBounds("all but the last", y, 0, 255, 255, 127, 63, 31, 15, 7, 3, 1, 0);
        y.mask(0, 0, 1, 1, true);
        y.mask(0, 0, 0, 0, false);
        dueBounds("all but the first", y, 0, 255, 255, 127, 63, 31, 15, 7, 3, 1, 0);
    }

    /** "A doubt of a last low number stays its own." */
    private static void doubtOfALastLowNumber() {
        WaveletTiler x = Images.black(7, 5, 4, 1);
        x.setting(2, 8);
        x.mask(4, 4, 4, 4, true);
        dueBounds("a row of 3, the last one in doubt", x, 3, 255, 255, 127, 63, 31, 15, 7, 3, 1, 0);
        x.mask(4, 4, 6, 4, false);
        x.mask(6, 4, 6, 4, true);
        dueBounds("a row of 3, the last one sure", x, 3, 255, 255, 191, 95, 47, 23, 11, 5, 2, 0);
        x.setting(1, 2);
        dueBounds("a row of 3, only the high one of level 1 in doubt", x, 3, 255, 128, 64, 32, 16, 8, 4, 2, 1, 0);
        WaveletTiler y = Images.black(5, 7, 4, 1);
        y.setting(2, 8);
        y.mask(4, 4, 4, 4, true);
        dueBounds("a column of 3, the last one in doubt", y, 3, 255, 255, 127, 63, 31, 15, 7, 3, 1, 0);
    }

    private static void boundIsOfItsTileWhateverTheValues() {
        WaveletTiler x = new WaveletTiler();
        x.setting(2, 8);
        x.mask(0, 0, 3, 3, true);
        x.fill(0, 0, 7, 7, 255);
        Check.due("bound of the masked tile", x.worst(1, 0, true), 0);
        for (int tile = 1; tile < 4; tile++) {
            Check.due("bound of another tile", x.worst(1, tile, true), 255);
            Check.due("bound with 8 layers", x.worst(8, tile, true), 5);
        }
        x.fill(0, 0, 7, 7, 0);
        Check.due("bound of a black tile", x.worst(8, 3, true), 5);
        Check.due("worst of a black tile", x.worst(0, 3, false), 0);
    }

    // ---- mean square

    private static void meanSquareOfSmallestAndLargest() {
        int[][] sizes = {{2, 2}, {2, 16}, {16, 2}, {16, 16}, {3, 5}};
        for (int[] size : sizes) {
            for (int side = 2; side <= 8; side *= 2) {
                WaveletTiler x = Images.black(size[0], size[1], side, 3);
                String text = "meanSquare of " + size[0] + " by " + size[1] + ", ";
                for (int layers = 0; layers <= 9; layers++) {
                    Check.due(text + "black, " + layers, x.meanSquare(layers), 0.0);
                }
                x.fill(0, 0, size[0] - 1, size[1] - 1, 255);
                double[] due = {65025.0, 65025.0, 16129.0, 3969.0, 961.0, 225.0, 49.0, 9.0, 1.0, 0.0};
                for (int layers = 0; layers <= 9; layers++) {
                    Check.due(text + "white, " + layers, x.meanSquare(layers), due[layers]);
                }
            }
        }
    }

    /** "The sum of the squares divided by the number of pixels", not rounded, with the pixels of all tiles. */
    private static void meanSquareIsAQuotient() {
        WaveletTiler x = Images.black(16, 16, 2, 0);
        x.set(0, 0, 1);
        Check.due("the first pixel", x.meanSquare(0), 1.0 / 256.0);
        x.set(15, 15, 2);
        Check.due("the last pixel, too", x.meanSquare(0), 5.0 / 256.0);
        Check.due("without the lowest plane", x.meanSquare(8), 1.0 / 256.0);
        WaveletTiler y = Images.black(3, 5, 4, 0);
        y.set(2, 4, 10);
        Check.due("of 15 pixels", y.meanSquare(0), 100.0 / 15.0);
        y.size(2, 2);
        y.set(1, 1, 3);
        Check.due("of 4 pixels", y.meanSquare(0), 2.25);
    }
}
