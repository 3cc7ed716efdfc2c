import java.util.NoSuchElementException;
import java.util.function.Consumer;
import java.util.function.Supplier;

/**
 * "The input, the fault position, the refusal and the plan are neither undone nor saved, and stay": each kind of call,
 * asked of an object that has all of these, fewer changes than are kept, and no setting as a new object has it; and of
 * objects that have all but one of these.
 */
final class KeptTests {

    private static final Class<NoSuchElementException> NO_ELEMENT = NoSuchElementException.class;
    private static final Class<IllegalStateException> STATE = IllegalStateException.class;

    private static final Supplier<WaveletTiler> ALL = () -> made("");

    public static void main(String[] args) {
        makingHasAll();
        asksChangeNothing();
        refusedCallsChangeNothing();
        changesLeaveAllButThePicture();
        readLeavesAllButThePictureAndTheInput();
        undoAndRestoreLeaveAllButThePicture();
        saveLeavesAllButTheSnapshot();
        planLeavesAllButThePlan();
        feedLeavesAllButTheInput();
        fullInput();
        noPlan();
        noFaultPosition();
        noRefusal();
        nothingToUndo();
        noSnapshot();
        Check.end("KeptTests");
    }

    /** 5 by 7 pixels, 12 tiles and 5 changes; what is named is left out. */
    private static WaveletTiler made(String leftOut) {
        WaveletTiler x = new WaveletTiler();
        x.size(5, 7);
        x.fill(0, 0, 4, 6, 90);
        Images.feed(x, "t8;l1;b5;maAaA;meGeG");
        x.read();
        if (!leftOut.equals("snapshot")) {
            x.saveSnapshot();
        }
        Images.feed(x, "t2;l3;b6");
        x.read();
        x.set(4, 6, 200);
        if (!leftOut.equals("plan")) {
            x.plan(150);
        }
        if (!leftOut.equals("fault position")) {
            Images.feed(x, "t2x");
            Check.outcome(x::read);
        }
        if (!leftOut.equals("refusal")) {
            Check.outcome(() -> x.raise(11, 255));
        }
        if (leftOut.equals("changes")) {
            x.restoreSnapshot();
        }
        Images.feed(x, "t8;l1;b2");
        return x;
    }

    /** The other tests here would say little if something were missing, or were as a new object has it. */
    private static void makingHasAll() {
        WaveletTiler x = made("");
        int[] due = {5, 7, 2, 3, 6, 12, 2, 34 * 90 + 200, 5, 8};
        for (int what = 0; what < due.length; what++) {
            Check.due("number " + what, x.number(what), due[what]);
        }
        Check.due("the fault position", x.faultPosition(), 2);
        Check.due("the reason", x.refusal(true), 5);
        Check.due("the number of the refusal", x.refusal(false), 34);
        Check.due("the plan", 10 * x.planned(0) + x.planned(11), 11);
        Check.refused("no more tiles in the plan", IndexOutOfBoundsException.class, () -> x.planned(12));
        Check.due("the input", x.read(), 3);
        Check.due("the snapshot", x.restoreSnapshot(), 1);
        Check.due("the snapshot's side, levels and boost", 100 * x.number(2) + 10 * x.number(3) + x.number(4), 815);
    }

    private static void dueSame(String text, Supplier<WaveletTiler> maker, Consumer<WaveletTiler> call) {
        Check.due(text + " leaves the state", State.of(Images.with(maker, call)), State.of(maker));
    }

    private static void asksChangeNothing() {
        for (int i = 0; i <= 9; i++) {
            int what = i;
            dueSame("number " + what, ALL, x -> x.number(what));
            dueSame("tile 3 " + what, ALL, x -> x.tile(3, what));
            dueSame("layerOf " + what, ALL, x -> x.layerOf(0, 1, 1, what));
            dueSame("bits " + (what - 1), ALL, x -> x.bits(0, what - 1));
            dueSame("roots " + what, ALL, x -> x.roots(11, what));
            dueSame("decoded " + what, ALL, x -> x.decoded(what, 4, 6));
            dueSame("worst " + what, ALL, x -> x.worst(what, 11, false));
            dueSame("bound " + what, ALL, x -> x.worst(what, 11, true));
            dueSame("meanSquare " + what, ALL, x -> x.meanSquare(what));
            dueSame("planned " + what, ALL, x -> x.planned(what));
        }
        dueSame("pixel", ALL, x -> x.pixel(4, 6));
        dueSame("tileOf", ALL, x -> x.tileOf(4, 6));
        dueSame("coefficient", ALL, x -> x.coefficient(0, 1, 1));
        dueSame("band", ALL, x -> x.band(0, 1, 1));
        dueSame("descendants", ALL, x -> x.descendants(0, 0, 0));
        dueSame("needed", ALL, x -> x.needed(4, 6));
        dueSame("faultPosition", ALL, WaveletTiler::faultPosition);
        dueSame("refusal's reason", ALL, x -> x.refusal(true));
        dueSame("refusal's number", ALL, x -> x.refusal(false));
    }

    private static void refusedCallsChangeNothing() {
        dueSame("refused size", ALL, x -> x.size(1, 2));
        dueSame("refused setting", ALL, x -> x.setting(2, 9));
        dueSame("refused number", ALL, x -> x.number(-1));
        dueSame("refused set", ALL, x -> x.set(5, 0, 1));
        dueSame("refused set of a value", ALL, x -> x.set(4, 6, 256));
        dueSame("refused pixel", ALL, x -> x.pixel(5, 0));
        dueSame("refused fill", ALL, x -> x.fill(0, 0, 5, 6, 1));
        dueSame("refused fill, turned", ALL, x -> x.fill(4, 0, 0, 6, 1));
        dueSame("refused fill with a value", ALL, x -> x.fill(0, 0, 4, 6, 256));
        dueSame("refused mask", ALL, x -> x.mask(0, 0, 4, 7, false));
        dueSame("refused mask, turned", ALL, x -> x.mask(0, 6, 4, 0, false));
        dueSame("refused tileOf", ALL, x -> x.tileOf(0, 7));
        dueSame("refused tile", ALL, x -> x.tile(12, 0));
        dueSame("refused tile of what", ALL, x -> x.tile(0, -1));
        dueSame("refused raise", ALL, x -> x.raise(12, 1));
        dueSame("refused raise by much", ALL, x -> x.raise(0, -256));
        dueSame("refused swap", ALL, x -> x.swap(12, 0));
        dueSame("refused soften", ALL, x -> x.soften(12, 0));
        dueSame("refused soften with layers", ALL, x -> x.soften(0, -1));
        dueSame("refused coefficient", ALL, x -> x.coefficient(11, 1, 0));
        dueSame("refused band", ALL, x -> x.band(11, 0, 1));
        dueSame("refused layerOf", ALL, x -> x.layerOf(11, 1, 0, 0));
        dueSame("refused layerOf a plane", ALL, x -> x.layerOf(11, 0, 0, 9));
        dueSame("refused bits", ALL, x -> x.bits(12, 0));
        dueSame("refused bits of a layer", ALL, x -> x.bits(0, -2));
        dueSame("refused descendants", ALL, x -> x.descendants(11, 1, 0));
        dueSame("refused roots", ALL, x -> x.roots(12, 0));
        dueSame("refused roots at a plane", ALL, x -> x.roots(0, 10));
        dueSame("refused needed", ALL, x -> x.needed(5, 0));
        dueSame("refused decoded", ALL, x -> x.decoded(-1, 0, 0));
        dueSame("refused decoded of a pixel", ALL, x -> x.decoded(0, 0, 7));
        dueSame("refused worst", ALL, x -> x.worst(10, 0, true));
        dueSame("refused worst of a tile", ALL, x -> x.worst(0, 12, false));
        dueSame("refused meanSquare", ALL, x -> x.meanSquare(10));
        dueSame("refused plan", ALL, x -> x.plan(-1));
        dueSame("refused planned", ALL, x -> x.planned(12));
    }

    private static void duePictureAlone(String text, Consumer<WaveletTiler> call) {
        Supplier<WaveletTiler> changed = Images.with(ALL, call);
        Check.due(text + " changes the picture", State.picture(changed).equals(State.picture(ALL)), false);
        Check.due(text + " leaves the rest", State.besidesPicture(changed), State.besidesPicture(ALL));
    }

    private static void changesLeaveAllButThePicture() {
        duePictureAlone("size", x -> x.size(16, 16));
        duePictureAlone("smaller size", x -> x.size(2, 2));
        duePictureAlone("setting the side", x -> x.setting(0, 4));
        duePictureAlone("setting the levels", x -> x.setting(1, 2));
        duePictureAlone("setting the boost", x -> x.setting(2, 0));
        duePictureAlone("set", x -> x.set(0, 0, 91));
        duePictureAlone("fill", x -> x.fill(0, 0, 4, 6, 0));
        duePictureAlone("mask", x -> x.mask(0, 0, 4, 6, true));
        duePictureAlone("mask out", x -> x.mask(0, 0, 4, 6, false));
        duePictureAlone("raise", x -> x.raise(11, 55));
        duePictureAlone("swap", x -> {
            x.set(0, 0, 0);
            x.swap(0, 1);
        });
        duePictureAlone("soften", x -> x.soften(0, 1));
    }

    /** The input, with which this making ends, is read, and empty then. */
    private static void readLeavesAllButThePictureAndTheInput() {
        WaveletTiler x = made("");
        x.read();
        Check.due("the input is empty", x.number(9), 0);
        Supplier<WaveletTiler> read = Images.with(ALL, WaveletTiler::read);
        Supplier<WaveletTiler> again = Images.with(read, y -> Images.feed(y, "t8;l1;b2"));
        Check.due("read changes the picture", State.picture(again).equals(State.picture(ALL)), false);
        Check.due("read leaves the rest", State.besidesPicture(again), State.besidesPicture(ALL));
    }

    private static void undoAndRestoreLeaveAllButThePicture() {
        for (int i = 1; i <= 5; i++) {
            int times = i;
            duePictureAlone(times + " undos", x -> {
                for (int undone = 0; undone < times; undone++) {
                    x.undo();
                }
            });
        }
        duePictureAlone("restoreSnapshot", WaveletTiler::restoreSnapshot);
    }

    private static void saveLeavesAllButTheSnapshot() {
        Supplier<WaveletTiler> saved = Images.with(ALL, WaveletTiler::saveSnapshot);
        Check.due("saveSnapshot changes the snapshot", State.snapshot(saved).equals(State.snapshot(ALL)), false);
        Check.due("saveSnapshot leaves what is kept", State.kept(saved), State.kept(ALL));
        Check.due("saveSnapshot leaves the plan", State.plan(saved.get()), State.plan(ALL.get()));
        Check.due("saveSnapshot leaves the changes", State.history(saved), State.history(ALL));
        Check.due("saveSnapshot leaves the characters", saved.get().read(), 3);
    }

    private static void planLeavesAllButThePlan() {
        Supplier<WaveletTiler> planned = Images.with(ALL, x -> x.plan(9999));
        Check.due("plan changes the plan", State.plan(planned.get()).equals(State.plan(ALL.get())), false);
        Check.due("plan leaves what is kept", State.kept(planned), State.kept(ALL));
        Check.due("plan leaves the snapshot", State.snapshot(planned), State.snapshot(ALL));
        Check.due("plan leaves the changes", State.history(planned), State.history(ALL));
        Check.due("plan leaves the characters", planned.get().read(), 3);
    }

    private static void feedLeavesAllButTheInput() {
        Supplier<WaveletTiler> fed = Images.with(ALL, x -> x.feed('!'));
        WaveletTiler x = fed.get();
        Check.due("the input", x.number(9), 9);
        Check.due("the fault position", x.faultPosition(), 2);
        Check.due("the refusal", 100 * x.refusal(true) + x.refusal(false), 534);
        Check.due("feed leaves the plan", State.plan(x), State.plan(ALL.get()));
        Check.due("feed leaves the snapshot", State.snapshot(fed), State.snapshot(ALL));
        Check.due("feed leaves the changes", State.history(fed), State.history(ALL));
    }

    private static void fullInput() {
        Supplier<WaveletTiler> maker = Images.with(ALL, x -> Images.feed(x, ";b2".repeat(17) + "!"));
        Check.due("the full input", maker.get().number(9), 60);
        Check.refused("feed in a full input", STATE, () -> maker.get().feed(';'));
        dueSame("feed in a full input", maker, x -> x.feed(';'));
    }

    private static void noPlan() {
        Supplier<WaveletTiler> maker = () -> made("plan");
        for (int tile : new int[] {-1, 0, 11, 12}) {
            Check.refused("planned " + tile + " without a plan", NO_ELEMENT, () -> maker.get().planned(tile));
            dueSame("planned " + tile + " without a plan", maker, x -> x.planned(tile));
        }
    }

    private static void noFaultPosition() {
        Supplier<WaveletTiler> maker = () -> made("fault position");
        Check.refused("no fault position", NO_ELEMENT, () -> maker.get().faultPosition());
        dueSame("no fault position", maker, WaveletTiler::faultPosition);
    }

    private static void noRefusal() {
        Supplier<WaveletTiler> maker = () -> made("refusal");
        for (boolean isReason : new boolean[] {true, false}) {
            Check.refused("no refusal", NO_ELEMENT, () -> maker.get().refusal(isReason));
            dueSame("no refusal", maker, x -> x.refusal(isReason));
        }
    }

    private static void nothingToUndo() {
        Supplier<WaveletTiler> maker = () -> made("changes");
        Check.due("no changes", maker.get().number(8), 0);
        Check.refused("nothing to undo", STATE, () -> maker.get().undo());
        dueSame("nothing to undo", maker, WaveletTiler::undo);
        Supplier<WaveletTiler> undone = Images.with(ALL, KeptTests::undoAll);
        Check.refused("nothing more to undo", STATE, () -> undone.get().undo());
        dueSame("nothing more to undo", undone, WaveletTiler::undo);
    }

    private static void undoAll(WaveletTiler x) {
        while (x.number(8) > 0) {
            x.undo();
        }
    }

    private static void noSnapshot() {
        Supplier<WaveletTiler> maker = () -> made("snapshot");
        Check.refused("no snapshot", STATE, () -> maker.get().restoreSnapshot());
        dueSame("no snapshot", maker, WaveletTiler::restoreSnapshot);
    }
}
