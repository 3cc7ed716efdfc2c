import java.util.NoSuchElementException;

/** The sentences of "Plans", and of promises 24 and 25, at their edges. */
final class PlanEdgeTests {

    private static final Class<IllegalArgumentException> ARGUMENT = IllegalArgumentException.class;
    private static final Class<IndexOutOfBoundsException> INDEX = IndexOutOfBoundsException.class;

    public static void main(String[] args) {
        noPlan();
        smallestAndGreatestBudget();
        costOfExactlyWhatIsLeft();
        atMostNineLayers();
        noLayersForBlackTiles();
        noLayersForWhatIsWholeAlready();
        greatestDifferenceFirst();
        lowestNumberOfSeveral();
        othersWhenTheWorstCannotPay();
        boostedLayersAtOnce();
        plansOfAllSizes();
        newPlansBeginAnew();
        latestPlanIsKept();
        refusedPlanLeavesTheLatest();
        plansOfEarlierSizes();
        Check.end("PlanEdgeTests");
    }

    private static void duePlan(WaveletTiler x, int budget, int left, int... layers) {
        Check.due("plan " + budget, x.plan(budget), left);
        for (int tile = 0; tile < layers.length; tile++) {
            Check.due("planned " + tile + " after " + budget, x.planned(tile), layers[tile]);
        }
        Check.refused("planned " + layers.length, INDEX, () -> x.planned(layers.length));
    }

    /** Two tiles of four pixels without levels. */
    private static WaveletTiler pair(int first, int second) {
        WaveletTiler x = Images.black(4, 2, 2, 0);
        x.fill(0, 0, 1, 1, first);
        x.fill(2, 0, 3, 1, second);
        return x;
    }

    private static void noPlan() {
        WaveletTiler x = new WaveletTiler();
        for (int tile : new int[] {-1, 0, 3, 4}) {
            Check.refused("no plan, tile " + tile, NoSuchElementException.class, () -> x.planned(tile));
        }
        Check.refused("plan -1", ARGUMENT, () -> x.plan(-1));
        Check.refused("plan 10000", ARGUMENT, () -> x.plan(10000));
        Check.refused("no plan after refused ones", NoSuchElementException.class, () -> x.planned(0));
        duePlan(x, 0, 0, 0, 0, 0, 0);
    }

    private static void smallestAndGreatestBudget() {
        duePlan(pair(255, 255), 0, 0, 0, 0);
        duePlan(pair(255, 255), 1, 1, 0, 0);
        duePlan(pair(255, 255), 9998, 9998 - 80, 9, 9);
        duePlan(pair(255, 255), 9999, 9999 - 80, 9, 9);
        duePlan(pair(0, 0), 0, 0, 0, 0);
        duePlan(pair(0, 0), 9999, 9999, 0, 0);
    }

    /** "At most as many bits as are left of the budget." */
    private static void costOfExactlyWhatIsLeft() {
        duePlan(pair(255, 0), 3, 3, 0, 0);
        duePlan(pair(255, 0), 4, 0, 1, 0);
        duePlan(pair(255, 0), 11, 7, 1, 0);
        duePlan(pair(255, 0), 12, 0, 2, 0);
        duePlan(pair(255, 0), 39, 3, 8, 0);
        duePlan(pair(255, 0), 40, 0, 9, 0);
        duePlan(pair(255, 0), 41, 1, 9, 0);
        duePlan(pair(255, 255), 79, 3, 9, 8);
        duePlan(pair(255, 255), 80, 0, 9, 9);
    }

    private static void atMostNineLayers() {
        WaveletTiler x = Images.black(16, 16, 2, 0);
        x.fill(0, 0, 15, 15, 255);
        Check.due("plan of the largest image", x.plan(9999), 9999 - 2560);
        for (int tile = 0; tile < 64; tile++) {
            Check.due("planned " + tile, x.planned(tile), 9);
        }
        Check.refused("planned 64", INDEX, () -> x.planned(64));
        Check.due("plan of all but a bit", x.plan(2559), 3);
        Check.due("the last tile goes without", x.planned(63), 8);
        Check.due("the one ahead does not", x.planned(62), 9);
    }

    /** "A worst difference above 0 with the layers that they have." */
    private static void noLayersForBlackTiles() {
        duePlan(pair(0, 255), 9999, 9959, 0, 9);
        duePlan(pair(255, 0), 9999, 9959, 9, 0);
        duePlan(pair(0, 1), 9999, 9999 - 40, 0, 9);
    }

    private static void noLayersForWhatIsWholeAlready() {
        duePlan(pair(128, 0), 9999, 9999 - 12, 2, 0);
        duePlan(pair(192, 64), 9999, 9999 - 16 - 16, 3, 3);
        duePlan(pair(254, 0), 9999, 9999 - 36, 8, 0);
        WaveletTiler x = pair(255, 255);
        x.setting(1, 1);
        duePlan(x, 9999, 9999 - 74, 9, 9);
    }

    private static void greatestDifferenceFirst() {
        duePlan(pair(100, 101), 4, 0, 0, 1);
        duePlan(pair(101, 100), 4, 0, 1, 0);
        duePlan(pair(101, 100), 8, 0, 2, 0);
        // 101 has 2 layers then and misses all still: its third brings 64, and 100 is next.
        duePlan(pair(101, 100), 16, 0, 3, 0);
        duePlan(pair(101, 100), 20, 0, 3, 1);
        WaveletTiler x = Images.black(16, 16, 2, 0);
        x.fill(0, 0, 15, 15, 1);
        x.set(15, 15, 2);
        Check.due("plan 4", x.plan(4), 0);
        Check.due("the last tile", x.planned(63), 1);
        Check.due("the first tile", x.planned(0), 0);
    }

    /** "Of several the one with the lowest number." */
    private static void lowestNumberOfSeveral() {
        duePlan(pair(100, 100), 4, 0, 1, 0);
        duePlan(pair(100, 100), 8, 0, 2, 0);
        WaveletTiler x = Images.black(6, 6, 2, 0);
        x.fill(2, 0, 3, 1, 9);
        x.fill(4, 4, 5, 5, 9);
        duePlan(x, 4, 0, 0, 1, 0, 0, 0, 0, 0, 0, 0);
        x.fill(0, 4, 1, 5, 10);
        duePlan(x, 4, 0, 0, 0, 0, 0, 0, 0, 1, 0, 0);
    }

    /** A tile whose next layer is too dear stands aside, and those that can pay go on. */
    private static void othersWhenTheWorstCannotPay() {
        WaveletTiler x = Images.black(3, 3, 2, 0);
        x.fill(0, 0, 2, 2, 255);
        x.set(2, 2, 1);
        duePlan(x, 3, 0, 0, 1, 0, 1);
        duePlan(x, 1, 0, 0, 0, 0, 1);
        duePlan(x, 5, 0, 1, 0, 0, 1);
        WaveletTiler y = pair(255, 3);
        y.setting(2, 8);
        y.mask(0, 0, 1, 1, true);
        duePlan(y, 39, 3, 0, 8);
        duePlan(y, 40, 0, 1, 0);
        duePlan(y, 44, 0, 1, 1);
    }

    /** All planes of a tile may come with its first layer; the layers without bits behind it are not asked for then. */
    private static void boostedLayersAtOnce() {
        WaveletTiler x = pair(255, 255);
        x.mask(0, 0, 3, 1, true);
        x.setting(2, 8);
        duePlan(x, 39, 39, 0, 0);
        duePlan(x, 40, 0, 1, 0);
        duePlan(x, 9999, 9999 - 80, 1, 1);
        x.setting(2, 5);
        duePlan(x, 9999, 9999 - 80, 4, 4);
    }

    private static void plansOfAllSizes() {
        WaveletTiler x = Images.black(2, 2, 8, 3);
        x.fill(0, 0, 1, 1, 255);
        duePlan(x, 9999, 9999 - 37, 9);
        WaveletTiler y = Images.black(9, 9, 8, 3);
        y.fill(0, 0, 8, 8, 255);
        duePlan(y, 9999, 9999 - 577 - 73 - 73 - 10, 9, 9, 9, 9);
        // The tile of one pixel has the highest number and is the only one that 7 bits are enough for.
        duePlan(y, 7, 0, 0, 0, 0, 6);
    }

    /** "At first no tile has layers", whatever the plan before gave. */
    private static void newPlansBeginAnew() {
        WaveletTiler x = pair(255, 255);
        duePlan(x, 9999, 9919, 9, 9);
        duePlan(x, 4, 0, 1, 0);
        duePlan(x, 9999, 9919, 9, 9);
        duePlan(x, 0, 0, 0, 0);
        x.fill(0, 0, 1, 1, 0);
        duePlan(x, 9999, 9959, 0, 9);
        WaveletTiler y = pair(255, 255);
        duePlan(y, 3, 3, 0, 0);
        y.setting(0, 8);
        duePlan(y, 9999, 9919, 9);
        y.setting(0, 2);
        duePlan(y, 9999, 9919, 9, 9);
    }

    /** "The latest plan is kept until the next one, whatever changes." */
    private static void latestPlanIsKept() {
        WaveletTiler x = pair(128, 255);
        x.saveSnapshot();
        Check.due("plan", x.plan(28), 0);
        String[] names = {"set", "fill", "mask", "setting", "raise", "swap", "soften", "read", "undo", "size",
            "restoreSnapshot"};
        Runnable[] calls = {() -> x.set(0, 0, 0), () -> x.fill(0, 0, 3, 1, 1), () -> x.mask(0, 0, 3, 1, true),
            () -> x.setting(0, 8), () -> x.raise(0, 3), () -> x.swap(0, 0), () -> x.soften(0, 0), () -> {
                Images.feed(x, "t2;raAaA=00");
                x.read();
            }, x::undo, () -> x.size(16, 16), x::restoreSnapshot};
        for (int i = 0; i < calls.length; i++) {
            calls[i].run();
            Check.due("planned 0 after " + names[i], x.planned(0), 2);
            Check.due("planned 1 after " + names[i], x.planned(1), 3);
            Check.refused("planned 2 after " + names[i], INDEX, () -> x.planned(2));
        }
    }

    private static void refusedPlanLeavesTheLatest() {
        WaveletTiler x = pair(255, 255);
        x.plan(80);
        for (int budget : new int[] {-1, 10000, Integer.MIN_VALUE, Integer.MAX_VALUE}) {
            Check.refused("plan " + budget, ARGUMENT, () -> x.plan(budget));
            Check.due("planned 0 then", x.planned(0), 9);
            Check.due("planned 1 then", x.planned(1), 9);
        }
    }

    /** "If there was no such tile when it was made", be there more or fewer tiles now. */
    private static void plansOfEarlierSizes() {
        WaveletTiler x = Images.black(16, 16, 2, 0);
        x.plan(0);
        x.size(2, 2);
        Check.due("a tile that is no more", x.planned(63), 0);
        Check.refused("a tile that never was", INDEX, () -> x.planned(64));
        Check.refused("a tile below 0", INDEX, () -> x.planned(-1));
        x.plan(0);
        x.size(16, 16);
        Check.due("the one tile", x.planned(0), 0);
        Check.refused("a tile that was not yet", INDEX, () -> x.planned(1));
    }
}
