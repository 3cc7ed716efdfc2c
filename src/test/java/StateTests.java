import java.util.function.Consumer;
import java.util.function.Supplier;

/**
 * What a call leaves: "A method that throws an exception leaves the state unchanged unless its documentation says
 * otherwise"; "The input, the fault position, the refusal and the plan are neither undone nor saved, and stay"; and
 * that a call that asks changes nothing.
 */
final class StateTests {

    private static final Supplier<WaveletTiler> FULL = Images::full;

    public static void main(String[] args) {
        makingIsFull();
        asksChangeNothing();
        asksOfOneTileLeaveNothingForAnother();
        refusedCallsChangeNothing();
        refusedEditsKeepTheirRefusal();
        refusedTextsKeepTheirRefusal();
        faultsAreKept();
        plansChangeThePlanAlone();
        savingChangesTheSnapshotAlone();
        undoAndRestoreLeaveTheRest();
        Check.end("StateTests");
    }

    /** The other tests here would say little if there were not something of everything. */
    private static void makingIsFull() {
        WaveletTiler x = Images.full();
        int[] due = {7, 5, 4, 3, 1, 4, 10};
        for (int what = 0; what < due.length; what++) {
            Check.due("full: number " + what, x.number(what), due[what]);
        }
        Check.due("full: the changes", x.number(8), 8);
        Check.due("full: the input", x.number(9), 11);
        Check.due("full: the fault position", x.faultPosition(), 6);
        Check.due("full: the refusal", 10 * x.refusal(true) + x.refusal(false), 31);
        Check.due("full: the plan", x.planned(0) > 0 && x.planned(3) >= 0, true);
        Check.due("full: the snapshot", x.restoreSnapshot(), 4);
        Check.due("full: the snapshot's values", x.number(7), 15 * 77);
        String restored = State.of(Images.with(FULL, WaveletTiler::restoreSnapshot));
        Check.due("states that differ are told apart", State.of(FULL).equals(restored), false);
    }

    private static void dueSame(String text, Consumer<WaveletTiler> call) {
        Check.due(text + " leaves the state", State.of(Images.with(FULL, call)), State.of(FULL));
    }

    private static void asksChangeNothing() {
        dueSame("number", x -> x.number(8));
        dueSame("pixel", x -> x.pixel(6, 4));
        dueSame("tileOf", x -> x.tileOf(6, 4));
        dueSame("tile", x -> x.tile(3, 7));
        dueSame("coefficient", x -> x.coefficient(3, 2, 0));
        dueSame("band", x -> x.band(3, 2, 0));
        dueSame("layerOf", x -> x.layerOf(3, 2, 0, 8));
        dueSame("bits", x -> x.bits(0, -1));
        dueSame("descendants", x -> x.descendants(0, 0, 0));
        dueSame("roots", x -> x.roots(0, 4));
        dueSame("needed", x -> x.needed(6, 4));
        dueSame("decoded", x -> x.decoded(3, 2, 2));
        dueSame("worst", x -> x.worst(3, 0, false));
        dueSame("bound", x -> x.worst(3, 0, true));
        dueSame("meanSquare", x -> x.meanSquare(0));
        dueSame("planned", x -> x.planned(3));
        dueSame("faultPosition", WaveletTiler::faultPosition);
        dueSame("refusal", x -> x.refusal(true));
        dueSame("refusal's number", x -> x.refusal(false));
    }

    /** What is answered of a tile is the same whichever tile, larger or smaller, was asked of ahead of it. */
    private static void asksOfOneTileLeaveNothingForAnother() {
        for (int pattern = 0; pattern < 3; pattern++) {
            dueApart(9, pattern);
            dueApart(11, pattern);
        }
    }

    private static void dueApart(int length, int pattern) {
        for (int first = 0; first < 4; first++) {
            for (int second = 0; second < 4; second++) {
                WaveletTiler x = patterned(length, pattern);
                answers(x, first);
                String text = length + ", pattern " + pattern + ": asks of " + second + " after asks of " + first;
                Check.due(text, answers(x, second), answers(patterned(length, pattern), second));
            }
        }
    }

    /** A tile of 8 by 8 and smaller ones: noise, or stripes in the first tile alone. */
    private static WaveletTiler patterned(int length, int pattern) {
        WaveletTiler x = Images.black(length, length, 8, 3);
        for (int i = 0; i < length * length; i++) {
            int column = i % length;
            int row = i / length;
            boolean isStripe = column < 8 && row < 8 && (pattern == 1 ? column : row) % 2 == 0;
            x.set(column, row, pattern == 0 ? (i * i * 31 + i * 7) % 256 : isStripe ? 255 : 0);
        }
        x.mask(2, 2, 8, 4, true);
        x.setting(2, 3);
        return x;
    }

    private static String answers(WaveletTiler x, int tile) {
        StringBuilder answers = new StringBuilder();
        for (int number = 0; number <= 8; number++) {
            answers.append(x.tile(tile, number)).append(' ').append(x.bits(tile, number)).append(' ');
            answers.append(x.roots(tile, number)).append(' ').append(x.worst(number, tile, true)).append(' ');
            answers.append(x.worst(number, tile, false)).append(' ').append(x.layerOf(tile, 0, 0, number)).append(' ');
        }
        answers.append(x.coefficient(tile, 0, 0)).append(' ').append(x.descendants(tile, 0, 0)).append(' ');
        return answers.append(x.needed(x.tile(tile, 0), x.tile(tile, 1))).toString();
    }

    private static void refusedCallsChangeNothing() {
        dueSame("refused size", x -> x.size(17, 2));
        dueSame("refused setting", x -> x.setting(0, 5));
        dueSame("refused setting of nothing", x -> x.setting(3, 2));
        dueSame("refused number", x -> x.number(10));
        dueSame("refused set", x -> x.set(7, 0, 1));
        dueSame("refused set of a value", x -> x.set(0, 0, 256));
        dueSame("refused pixel", x -> x.pixel(0, 5));
        dueSame("refused fill", x -> x.fill(0, 0, 7, 4, 1));
        dueSame("refused fill with a value", x -> x.fill(0, 0, 6, 4, -1));
        dueSame("refused fill, turned", x -> x.fill(1, 0, 0, 4, 1));
        dueSame("refused mask", x -> x.mask(0, 0, 6, 5, true));
        dueSame("refused mask, turned", x -> x.mask(0, 1, 6, 0, false));
        dueSame("refused tileOf", x -> x.tileOf(7, 4));
        dueSame("refused tile", x -> x.tile(4, 0));
        dueSame("refused tile of what", x -> x.tile(0, 9));
        dueSame("refused raise", x -> x.raise(4, 1));
        dueSame("refused raise by much", x -> x.raise(0, 256));
        dueSame("refused swap", x -> x.swap(0, 4));
        dueSame("refused soften", x -> x.soften(4, 1));
        dueSame("refused soften with layers", x -> x.soften(0, 10));
        dueSame("refused coefficient", x -> x.coefficient(3, 3, 0));
        dueSame("refused band", x -> x.band(3, 0, 1));
        dueSame("refused layerOf", x -> x.layerOf(0, 0, 0, 9));
        dueSame("refused bits", x -> x.bits(0, 9));
        dueSame("refused descendants", x -> x.descendants(0, 4, 0));
        dueSame("refused roots", x -> x.roots(0, 10));
        dueSame("refused needed", x -> x.needed(7, 0));
        dueSame("refused decoded", x -> x.decoded(10, 0, 0));
        dueSame("refused worst", x -> x.worst(0, 4, false));
        dueSame("refused meanSquare", x -> x.meanSquare(-1));
        dueSame("refused plan", x -> x.plan(10000));
        dueSame("refused planned", x -> x.planned(4));
    }

    /** All but the latest refusal stays, the input and the fault position too. */
    private static void dueRefusal(String text, Consumer<WaveletTiler> call, int reason, int number) {
        Supplier<WaveletTiler> refused = Images.with(FULL, call);
        WaveletTiler x = refused.get();
        Check.due(text + ": reason", x.refusal(true), reason);
        Check.due(text + ": number", x.refusal(false), number);
        Check.due(text + ": the input", x.number(9), 11);
        Check.due(text + ": the fault position", x.faultPosition(), 6);
        Check.due(text + ": what is read then", x.read(), 2);
        Check.due(text + ": the rest", State.withoutKept(refused), State.withoutKept(FULL));
    }

    private static void refusedEditsKeepTheirRefusal() {
        dueRefusal("raise 0 -255", x -> x.raise(0, -255), 4, 1);
        dueRefusal("raise 0 255", x -> x.raise(0, 255), 5, 0);
        dueRefusal("raise 3 1", x -> x.raise(3, 1), 5, 34);
        dueRefusal("swap 0 1", x -> x.swap(0, 1), 6, 0);
        dueRefusal("swap 3 2", x -> x.swap(3, 2), 6, 0);
    }

    private static void dueRead(String text, int fault, int reason, int number) {
        Consumer<WaveletTiler> reading = x -> {
            Check.outcome(x::read);
            Images.feed(x, text);
            x.read();
        };
        Supplier<WaveletTiler> before = Images.with(FULL, x -> Check.outcome(x::read));
        Supplier<WaveletTiler> refused = Images.with(FULL, reading);
        WaveletTiler x = refused.get();
        Check.due("read " + text + ": the input", x.number(9), 0);
        Check.due("read " + text + ": the fault position", x.faultPosition(), fault);
        Check.due("read " + text + ": reason", x.refusal(true), reason);
        Check.due("read " + text + ": number", x.refusal(false), number);
        Check.due("read " + text + ": the rest", State.withoutKept(refused), State.withoutKept(before));
    }

    private static void refusedTextsKeepTheirRefusal() {
        dueRead("t3", 6, 3, 0);
        dueRead("rhAhA=00", 6, 1, 0);
        dueRead("raAgE=11;uaAgE;t8;l0;b0;mbAaA", 6, 2, 5);
    }

    private static void faultsAreKept() {
        dueRead("", 0, 3, 1);
        dueRead("raAgE=11;t9;", 12, 3, 1);
        dueRead("raAgE=11;uaAgE;t8;l0;b0;mgEgE;raAgE=11;uaAgE;t8;l0;b0;t4;l2;", 60, 3, 1);
        dueRead("raAgE=11x", 8, 3, 1);
    }

    /** Two makings whose plans differ are the same again when both plan the same. */
    private static void plansChangeThePlanAlone() {
        Consumer<WaveletTiler> plan = x -> x.plan(77);
        String due = State.of(Images.with(FULL, plan));
        Check.due("a plan is kept", due.equals(State.of(FULL)), false);
        Check.due("plan changes the plan alone", State.of(Images.with(Images.with(FULL, x -> x.plan(0)), plan)), due);
        Check.due("plan is no change", Images.with(FULL, plan).get().number(8), 8);
        Check.due("plan leaves the image", State.picture(Images.with(FULL, plan)), State.picture(FULL));
    }

    private static void savingChangesTheSnapshotAlone() {
        Supplier<WaveletTiler> saved = Images.with(FULL, WaveletTiler::saveSnapshot);
        Check.due("a snapshot is kept", State.of(saved).equals(State.of(FULL)), false);
        Check.due("saveSnapshot leaves the image", State.picture(saved), State.picture(FULL));
        for (int times = 1; times <= 8; times++) {
            int undone = times;
            Consumer<WaveletTiler> undo = x -> {
                for (int i = 0; i < undone; i++) {
                    x.undo();
                }
            };
            Check.due("saveSnapshot leaves change " + times, State.picture(Images.with(saved, undo)),
                    State.picture(Images.with(FULL, undo)));
        }
        Check.due("saveSnapshot leaves the input", saved.get().number(9), 11);
        Check.due("saveSnapshot leaves the fault position", saved.get().faultPosition(), 6);
        Check.due("saveSnapshot leaves the refusal", saved.get().refusal(true), 3);
    }

    private static void undoAndRestoreLeaveTheRest() {
        WaveletTiler plain = Images.full();
        for (int times = 1; times <= 9; times++) {
            WaveletTiler x = Images.full();
            for (int i = 0; i < Math.min(times, 8); i++) {
                x.undo();
            }
            if (times == 9) {
                x.restoreSnapshot();
            }
            Check.due("the input stays, " + times, x.number(9), 11);
            Check.due("the fault position stays, " + times, x.faultPosition(), 6);
            Check.due("the refusal stays, " + times, 10 * x.refusal(true) + x.refusal(false), 31);
            for (int tile = 0; tile < 4; tile++) {
                Check.due("the plan stays, " + times, x.planned(tile), plain.planned(tile));
            }
            Check.due("the characters stay, " + times, x.read(), 2);
        }
    }
}
