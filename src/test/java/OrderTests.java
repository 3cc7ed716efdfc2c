import java.util.NoSuchElementException;
import java.util.function.Supplier;

/**
 * "If several exceptions apply, the one that is documented first is thrown": each two of a method's exceptions at once,
 * and that a call that throws keeps nothing of what would have come later.
 */
final class OrderTests {

    private static final Class<IllegalArgumentException> ARGUMENT = IllegalArgumentException.class;
    private static final Class<IndexOutOfBoundsException> INDEX = IndexOutOfBoundsException.class;

    private interface Asked {
        Object answer(WaveletTiler x);
    }

    public static void main(String[] args) {
        pixelAheadOfValue();
        cornersAheadOfOrderAndValue();
        tileAheadOfNumber();
        tileAndNumberAheadOfRefusal();
        tilesAheadOfSizes();
        placeAheadOfPlane();
        layersAheadOfPixelAndTile();
        planAheadOfTile();
        textAheadOfItems();
        Check.end("OrderTests");
    }

    private static void first(String call, Class<? extends RuntimeException> due, Supplier<WaveletTiler> maker,
            Asked asked) {
        Check.refused(call, due, () -> asked.answer(maker.get()));
        Check.due(call + " leaves the state", State.of(Images.with(maker, asked::answer)), State.of(maker));
    }

    private static void pixelAheadOfValue() {
        first("set 8 0 256", INDEX, WaveletTiler::new, x -> x.set(8, 0, 256));
        first("set 0 8 -1", INDEX, WaveletTiler::new, x -> x.set(0, 8, -1));
        first("set -1 0 -1", INDEX, WaveletTiler::new, x -> x.set(-1, 0, -1));
        first("set 0 -1 256", INDEX, WaveletTiler::new, x -> x.set(0, -1, 256));
    }

    private static void cornersAheadOfOrderAndValue() {
        int[][] outside = {{8, 0, 7, 7}, {0, 8, 7, 7}, {1, 0, -1, 7}, {0, 1, 7, -1}, {7, 7, 0, 8}, {7, 7, 8, 0},
            {-1, 7, 0, 0}, {7, -1, 0, 0}};
        for (int[] c : outside) {
            String corners = c[0] + " " + c[1] + " " + c[2] + " " + c[3];
            first("fill " + corners, INDEX, WaveletTiler::new, x -> x.fill(c[0], c[1], c[2], c[3], 0));
            first("fill with 256, " + corners, INDEX, WaveletTiler::new, x -> x.fill(c[0], c[1], c[2], c[3], 256));
            first("mask " + corners, INDEX, WaveletTiler::new, x -> x.mask(c[0], c[1], c[2], c[3], true));
            first("mask out " + corners, INDEX, WaveletTiler::new, x -> x.mask(c[0], c[1], c[2], c[3], false));
        }
        first("fill 0 0 8 7 -1", INDEX, WaveletTiler::new, x -> x.fill(0, 0, 8, 7, -1));
        first("fill 1 0 0 0 256", ARGUMENT, WaveletTiler::new, x -> x.fill(1, 0, 0, 0, 256));
    }

    private static void tileAheadOfNumber() {
        for (int tile : new int[] {-1, 4}) {
            first("tile " + tile + " 9", INDEX, WaveletTiler::new, x -> x.tile(tile, 9));
            first("tile " + tile + " -1", INDEX, WaveletTiler::new, x -> x.tile(tile, -1));
            first("soften " + tile + " 10", INDEX, WaveletTiler::new, x -> x.soften(tile, 10));
            first("soften " + tile + " -1", INDEX, WaveletTiler::new, x -> x.soften(tile, -1));
            first("bits " + tile + " 9", INDEX, WaveletTiler::new, x -> x.bits(tile, 9));
            first("bits " + tile + " -2", INDEX, WaveletTiler::new, x -> x.bits(tile, -2));
            first("roots " + tile + " 10", INDEX, WaveletTiler::new, x -> x.roots(tile, 10));
            first("roots " + tile + " -1", INDEX, WaveletTiler::new, x -> x.roots(tile, -1));
        }
    }

    private static void tileAndNumberAheadOfRefusal() {
        for (int tile : new int[] {-1, 4}) {
            first("raise " + tile + " 256", INDEX, WaveletTiler::new, x -> x.raise(tile, 256));
            first("raise " + tile + " -256", INDEX, WaveletTiler::new, x -> x.raise(tile, -256));
            first("raise " + tile + " -1", INDEX, WaveletTiler::new, x -> x.raise(tile, -1));
        }
        first("raise 0 -256", ARGUMENT, WaveletTiler::new, x -> x.raise(0, -256));
        Supplier<WaveletTiler> white = Images.with(WaveletTiler::new, x -> x.fill(0, 0, 7, 7, 255));
        first("raise 0 256", ARGUMENT, white, x -> x.raise(0, 256));
    }

    /** In an image of 5 by 5 every two tiles have different sizes, and so has any tile and one that is not there. */
    private static void tilesAheadOfSizes() {
        Supplier<WaveletTiler> maker = () -> Images.black(5, 5, 4, 2);
        for (int tile = 0; tile < 4; tile++) {
            int asked = tile;
            first("swap " + tile + " 4", INDEX, maker, x -> x.swap(asked, 4));
            first("swap 4 " + tile, INDEX, maker, x -> x.swap(4, asked));
            first("swap " + tile + " -1", INDEX, maker, x -> x.swap(asked, -1));
            first("swap -1 " + tile, INDEX, maker, x -> x.swap(-1, asked));
        }
        first("swap 4 4", INDEX, maker, x -> x.swap(4, 4));
        first("swap -1 4", INDEX, maker, x -> x.swap(-1, 4));
    }

    private static void placeAheadOfPlane() {
        int[][] places = {{-1, 0, 0}, {4, 0, 0}, {0, -1, 0}, {0, 4, 0}, {0, 0, -1}, {0, 0, 4}};
        for (int[] p : places) {
            String place = p[0] + " " + p[1] + " " + p[2];
            first("layerOf " + place + " 9", INDEX, WaveletTiler::new, x -> x.layerOf(p[0], p[1], p[2], 9));
            first("layerOf " + place + " -1", INDEX, WaveletTiler::new, x -> x.layerOf(p[0], p[1], p[2], -1));
        }
    }

    private static void layersAheadOfPixelAndTile() {
        for (int layers : new int[] {-1, 10}) {
            first("decoded " + layers + " 8 0", ARGUMENT, WaveletTiler::new, x -> x.decoded(layers, 8, 0));
            first("decoded " + layers + " 0 8", ARGUMENT, WaveletTiler::new, x -> x.decoded(layers, 0, 8));
            first("decoded " + layers + " -1 -1", ARGUMENT, WaveletTiler::new, x -> x.decoded(layers, -1, -1));
            for (int tile : new int[] {-1, 4}) {
                String text = layers + " " + tile;
                first("worst " + text, ARGUMENT, WaveletTiler::new, x -> x.worst(layers, tile, false));
                first("bound " + text, ARGUMENT, WaveletTiler::new, x -> x.worst(layers, tile, true));
            }
        }
    }

    private static void planAheadOfTile() {
        for (int tile : new int[] {-1, 4, 64, Integer.MIN_VALUE, Integer.MAX_VALUE}) {
            first("planned " + tile, NoSuchElementException.class, WaveletTiler::new, x -> x.planned(tile));
        }
    }

    /** A refused item ahead of a fault: the input is no text, and nothing is refused. */
    private static void textAheadOfItems() {
        String[] texts = {"t3;x", "riAiA=00;", "l9;b9;t", "rbAaA=0g", "t0t0"};
        int[] faults = {3, 9, 7, 7, 2};
        for (int i = 0; i < texts.length; i++) {
            WaveletTiler x = new WaveletTiler();
            Images.feed(x, texts[i]);
            Check.refused("read " + texts[i], ARGUMENT, x::read);
            Check.due("faultPosition of " + texts[i], x.faultPosition(), faults[i]);
            Check.refused("refusal after " + texts[i], NoSuchElementException.class, () -> x.refusal(true));
        }
    }
}
