import java.util.NoSuchElementException;

/** Promises 21 to 25: decoding and plans. */
final class DecodingTests {

    private static final Class<IllegalArgumentException> ARGUMENT = IllegalArgumentException.class;
    private static final Class<IndexOutOfBoundsException> INDEX = IndexOutOfBoundsException.class;

    public static void main(String[] args) {
        promise21Decoded();
        promise21DecodedWithMask();
        promise21DecodedInOtherTiles();
        promise22Worst();
        promise22Bound();
        promise23MeanSquare();
        promise24Plan();
        promise24PlanOfEqualTiles();
        promise24PlanEnds();
        promise24PlanOfManyTiles();
        promise25Planned();
        Check.end("DecodingTests");
    }

    private static void dueDecoded(WaveletTiler x, int layers, int... due) {
        for (int i = 0; i < 6; i++) {
            Check.due("decoded " + layers + ", pixel " + i, x.decoded(layers, i % 3, i / 3), due[i]);
        }
    }

    private static void promise21Decoded() {
        WaveletTiler x = Images.small();
        dueDecoded(x, 0, 0, 0, 0, 0, 0, 0);
        dueDecoded(x, 1, 0, 0, 0, 0, 0, 0);
        dueDecoded(x, 2, 0, 0, 64, 0, 0, 0);
        dueDecoded(x, 8, 4, 7, 252, 0, 0, 0);
        dueDecoded(x, 9, 5, 8, 255, 0, 1, 2);
        Check.refused("decoded 10", ARGUMENT, () -> x.decoded(10, 0, 0));
        Check.refused("decoded -1", ARGUMENT, () -> x.decoded(-1, 0, 0));
        Check.refused("decoded 9 3 0", INDEX, () -> x.decoded(9, 3, 0));
        Check.refused("decoded 9 0 2", INDEX, () -> x.decoded(9, 0, 2));
        Check.refused("decoded 9 -1 -1", INDEX, () -> x.decoded(9, -1, -1));
        Check.refused("decoded 10 3 0: the layers come first", ARGUMENT, () -> x.decoded(10, 3, 0));
        Check.due("decoded is no change", x.number(8), 7);
    }

    private static void promise21DecodedWithMask() {
        WaveletTiler x = Images.small();
        x.setting(2, 8);
        x.mask(2, 1, 2, 1, true);
        // 65, -125 and 253 are whole with one layer; -2, 6 and -2 have nothing.
        dueDecoded(x, 1, 3, 3, 255, 3, 3, 2);
        x.mask(0, 0, 2, 1, true);
        dueDecoded(x, 1, 5, 8, 255, 0, 1, 2);
        dueDecoded(x, 0, 0, 0, 0, 0, 0, 0);
    }

    private static void promise21DecodedInOtherTiles() {
        WaveletTiler x = new WaveletTiler();
        x.size(10, 10);
        x.setting(0, 8);
        x.setting(1, 1);
        x.fill(8, 9, 9, 9, 255);
        Check.due("decoded 2 8 8: cut to 0", x.decoded(2, 8, 8), 0);
        Check.due("decoded 2 9 9", x.decoded(2, 9, 9), 64);
        Check.due("decoded 3 8 8", x.decoded(3, 8, 8), 0);
        Check.due("decoded 3 9 9", x.decoded(3, 9, 9), 160);
        Check.due("decoded 9 0 0", x.decoded(9, 0, 0), 0);
        for (int i = 0; i < 64; i++) {
            x.set(i % 8, i / 8, i * i % 251);
        }
        for (int levels = 0; levels <= 3; levels++) {
            x.setting(1, levels);
            for (int i = 0; i < 64; i++) {
                Check.due("decoded 9, pixel " + i, x.decoded(9, i % 8, i / 8), i * i % 251);
            }
        }
    }

    private static void promise22Worst() {
        WaveletTiler x = Images.small();
        int[] layers = {0, 1, 2, 8, 9};
        int[] due = {255, 255, 191, 3, 0};
        for (int i = 0; i < layers.length; i++) {
            Check.due("worst " + layers[i], x.worst(layers[i], 0, false), due[i]);
        }
        Check.refused("worst 10", ARGUMENT, () -> x.worst(10, 0, false));
        Check.refused("worst -1", ARGUMENT, () -> x.worst(-1, 0, true));
        Check.refused("worst 9 1", INDEX, () -> x.worst(9, 1, false));
        Check.refused("worst 9 -1", INDEX, () -> x.worst(9, -1, true));
        Check.refused("worst 10 1: the layers come first", ARGUMENT, () -> x.worst(10, 1, true));
    }

    private static void promise22Bound() {
        WaveletTiler x = Images.small();
        int[] due = {255, 255, 255, 175, 87, 43, 21, 10, 4, 0};
        for (int layers = 0; layers < due.length; layers++) {
            Check.due("bound " + layers, x.worst(layers, 0, true), due[layers]);
        }
        x.setting(2, 8);
        x.mask(0, 0, 2, 1, true);
        Check.due("bound of a masked tile", x.worst(1, 0, true), 0);
        Check.due("bound of a masked tile without layers", x.worst(0, 0, true), 255);
        x.mask(0, 0, 2, 1, false);
        x.setting(1, 0);
        Check.due("bound without levels", x.worst(3, 0, true), 63);
        x.setting(1, 2);
        x.size(5, 5);
        Check.due("bound of one pixel", x.worst(6, 3, true), 7);
        Check.due("bound of one pixel without layers", x.worst(0, 3, true), 255);
        x.size(4, 2);
        x.setting(2, 3);
        x.mask(0, 0, 0, 0, true);
        // The smooth one and across of level 2 have 1, as the masked ones of level 1; the other ones have 15.
        Check.due("bound of a tile that is masked in part", x.worst(5, 0, true), 22);
    }

    private static void promise23MeanSquare() {
        WaveletTiler x = Images.small();
        Check.due("meanSquare 2", x.meanSquare(2), 36575.0 / 6.0);
        Check.due("meanSquare 0", x.meanSquare(0), (25.0 + 64.0 + 65025.0 + 1.0 + 4.0) / 6.0);
        Check.due("meanSquare 9", x.meanSquare(9), 0.0);
        x.size(16, 16);
        x.fill(0, 0, 15, 15, 255);
        Check.due("meanSquare of a white image", x.meanSquare(0), 65025.0);
        x.fill(0, 0, 15, 15, 0);
        x.set(15, 15, 3);
        Check.due("meanSquare of one pixel", x.meanSquare(0), 9.0 / 256.0);
        Check.refused("meanSquare 10", ARGUMENT, () -> x.meanSquare(10));
        Check.refused("meanSquare -1", ARGUMENT, () -> x.meanSquare(-1));
    }

    private static void promise24Plan() {
        WaveletTiler x = Images.small();
        int[] budgets = {0, 5, 6, 12, 13, 20, 21, 59, 60, 9999};
        int[] left = {0, 5, 0, 6, 0, 7, 0, 5, 0, 9939};
        int[] layers = {0, 0, 1, 1, 2, 2, 3, 8, 9, 9};
        for (int i = 0; i < budgets.length; i++) {
            Check.due("plan " + budgets[i], x.plan(budgets[i]), left[i]);
            Check.due("planned after " + budgets[i], x.planned(0), layers[i]);
        }
        Check.due("plan 13", x.plan(13), 0);
        Check.refused("plan -1", ARGUMENT, () -> x.plan(-1));
        Check.refused("plan 10000", ARGUMENT, () -> x.plan(10000));
        Check.due("a refused plan leaves the latest", x.planned(0), 2);
        Check.due("plan is no change", x.number(8), 7);
    }

    private static void promise24PlanOfEqualTiles() {
        WaveletTiler x = new WaveletTiler();
        x.size(4, 2);
        x.setting(0, 2);
        x.setting(1, 0);
        x.fill(0, 0, 3, 1, 100);
        duePlan(x, 3, 3, 0, 0);
        duePlan(x, 8, 0, 2, 0);
        duePlan(x, 9, 1, 2, 0);
        duePlan(x, 15, 3, 2, 1);
        duePlan(x, 16, 0, 3, 0);
        duePlan(x, 20, 0, 3, 1);
        x.set(3, 1, 101);
        duePlan(x, 8, 0, 0, 2);
    }

    private static void duePlan(WaveletTiler x, int budget, int left, int... layers) {
        Check.due("plan " + budget, x.plan(budget), left);
        for (int tile = 0; tile < layers.length; tile++) {
            Check.due("planned " + tile + " after " + budget, x.planned(tile), layers[tile]);
        }
    }

    private static void promise24PlanEnds() {
        WaveletTiler x = new WaveletTiler();
        x.size(4, 2);
        x.setting(0, 2);
        x.setting(1, 0);
        x.fill(0, 0, 3, 1, 64);
        duePlan(x, 9999, 9967, 3, 3);
        x.fill(0, 0, 1, 1, 0);
        duePlan(x, 9999, 9983, 0, 3);
        x.setting(2, 8);
        x.mask(2, 0, 3, 1, true);
        duePlan(x, 9999, 9959, 0, 1);
        duePlan(x, 39, 39, 0, 0);
    }

    private static void promise24PlanOfManyTiles() {
        WaveletTiler x = new WaveletTiler();
        x.size(16, 16);
        x.setting(0, 2);
        x.setting(1, 0);
        x.fill(0, 0, 15, 15, 1);
        Check.due("plan of 64 tiles", x.plan(9999), 9999 - 64 * 40);
        Check.due("planned 0", x.planned(0), 9);
        Check.due("planned 63", x.planned(63), 9);
        Check.due("plan of all but a bit", x.plan(64 * 40 - 1), 7);
        Check.due("planned 62", x.planned(62), 9);
        Check.due("planned 63", x.planned(63), 8);
    }

    private static void promise25Planned() {
        WaveletTiler x = new WaveletTiler();
        Check.refused("planned without a plan", NoSuchElementException.class, () -> x.planned(0));
        Check.refused("planned -1 without a plan", NoSuchElementException.class, () -> x.planned(-1));
        x.set(7, 7, 255);
        x.plan(9999);
        Check.due("planned 3", x.planned(3), 9);
        Check.due("planned 0", x.planned(0), 0);
        Check.refused("planned 4", INDEX, () -> x.planned(4));
        Check.refused("planned -1", INDEX, () -> x.planned(-1));
        x.saveSnapshot();
        x.size(2, 2);
        x.undo();
        x.restoreSnapshot();
        x.setting(0, 2);
        Check.due("the plan stays, whatever changes", x.planned(3), 9);
        Check.refused("tiles of later sizes have none", INDEX, () -> x.planned(4));
        x.size(2, 2);
        Check.due("earlier tiles keep theirs", x.planned(3), 9);
        x.plan(0);
        Check.due("a new plan takes its place", x.planned(0), 0);
        Check.refused("planned 1", INDEX, () -> x.planned(1));
    }
}
