import java.util.List;
import java.util.function.Consumer;
import java.util.function.Supplier;

/** The sentences of "Undo", and of promises 30 to 32, at their edges. */
final class UndoEdgeTests {

    private static final Class<IllegalStateException> STATE = IllegalStateException.class;

    public static void main(String[] args) {
        nothingToUndo();
        eachKindOfChange();
        changesThatChangeNothing();
        refusedCallsAreNoChanges();
        asksAreNoChanges();
        eightChangesAndANinth();
        forgottenStaysForgotten();
        undoOfManyChangesInTurn();
        undoBringsBackTheWholePicture();
        largestPictureIsBroughtBack();
        lastOfAllCalls();
        noSnapshot();
        snapshotOfANewObject();
        snapshotInPlaceOfAnEarlierOne();
        snapshotIsKept();
        nothingCanBeUndoneThen();
        snapshotsAreNotUndone();
        restoredSizesTellTheirTiles();
        Check.end("UndoEdgeTests");
    }

    /** Every kind of change: calls that are successful after one another in any order. */
    private static final String[] NAMES = {"size", "setting side", "setting levels", "setting boost", "set", "fill",
        "mask", "mask out", "raise", "swap", "soften", "read"};

    private static void change(WaveletTiler x, int kind) {
        switch (kind) {
            case 0:
                x.size(7, 9);
                break;
            case 1:
                x.setting(0, 2);
                break;
            case 2:
                x.setting(1, 3);
                break;
            case 3:
                x.setting(2, 8);
                break;
            case 4:
                x.set(6, 6, 1);
                break;
            case 5:
                x.fill(0, 0, 6, 6, 2);
                break;
            case 6:
                x.mask(0, 0, 6, 6, true);
                break;
            case 7:
                x.mask(0, 0, 0, 0, false);
                break;
            case 8:
                x.raise(0, x.pixel(0, 0) > 2 ? -1 : 1);
                break;
            case 9:
                x.swap(0, 2);
                break;
            case 10:
                x.soften(0, 2);
                break;
            default:
                Images.feed(x, "t2;l0;b3;rbBcC=09;mcCdD");
                x.read();
                break;
        }
    }

    private static WaveletTiler begun() {
        WaveletTiler x = new WaveletTiler();
        x.fill(0, 0, 3, 3, 255);
        x.mask(0, 0, 1, 1, true);
        return x;
    }

    private static final Supplier<WaveletTiler> BEGUN = UndoEdgeTests::begun;

    private static void nothingToUndo() {
        WaveletTiler x = new WaveletTiler();
        Check.due("new: changes", x.number(8), 0);
        Check.refused("new: undo", STATE, x::undo);
        Check.due("new: changes after a refused undo", x.number(8), 0);
        x.set(0, 0, 1);
        Check.due("one change", x.number(8), 1);
        Check.due("undo it", x.undo(), 0);
        Check.refused("undo again", STATE, x::undo);
        Check.refused("undo once more", STATE, x::undo);
        Check.due("the pixel", x.pixel(0, 0), 0);
        x.set(0, 0, 2);
        Check.due("a change after refused undos", x.number(8), 1);
        Check.due("undo it, too", x.undo(), 0);
    }

    /** "The changes are the successful calls of size, setting, set, fill, mask, raise, swap, soften and read." */
    private static void eachKindOfChange() {
        for (int i = 0; i < NAMES.length; i++) {
            int kind = i;
            Supplier<WaveletTiler> changed = Images.with(BEGUN, x -> change(x, kind));
            Check.due(NAMES[i] + " changes", State.picture(changed).equals(State.picture(BEGUN)), false);
            Check.due(NAMES[i] + " is a change", changed.get().number(8), 3);
            Check.due("undo of " + NAMES[i], changed.get().undo(), 2);
            Supplier<WaveletTiler> undone = Images.with(changed, WaveletTiler::undo);
            Check.due("undone " + NAMES[i], State.withoutKept(undone), State.withoutKept(BEGUN));
        }
    }

    /** "Also if nothing is different then." */
    private static void changesThatChangeNothing() {
        String[] names = {"size", "side", "levels", "boost", "set", "fill", "mask", "mask out", "raise", "swap",
            "soften", "read"};
        for (int i = 0; i < names.length; i++) {
            WaveletTiler x = new WaveletTiler();
            String before = State.picture(() -> new WaveletTiler());
            changeNothing(x, i);
            Check.due(names[i] + " that changes nothing is a change", x.number(8), 1);
            changeNothing(x, i);
            Check.due(names[i] + " again is another", x.number(8), 2);
            Check.due("undo of " + names[i], x.undo(), 1);
            Check.due("undo of " + names[i], x.undo(), 0);
            Check.due(names[i] + " changed nothing", State.picture(() -> x), before);
        }
    }

    private static void changeNothing(WaveletTiler x, int kind) {
        switch (kind) {
            case 0:
                x.size(8, 8);
                break;
            case 1:
                x.setting(0, 4);
                break;
            case 2:
                x.setting(1, 2);
                break;
            case 3:
                x.setting(2, 0);
                break;
            case 4:
                x.set(0, 0, 0);
                break;
            case 5:
                x.fill(0, 0, 7, 7, 0);
                break;
            case 6:
                x.mask(7, 7, 7, 7, false);
                break;
            case 7:
                x.mask(0, 0, 7, 7, false);
                break;
            case 8:
                x.raise(3, 0);
                break;
            case 9:
                x.swap(3, 3);
                break;
            case 10:
                x.soften(3, 0);
                break;
            default:
                Images.feed(x, "t4");
                x.read();
                break;
        }
    }

    private static void refusedCallsAreNoChanges() {
        WaveletTiler x = begun();
        Consumer<WaveletTiler> text = y -> {
            Images.feed(y, "t2;t9");
            y.read();
        };
        Consumer<WaveletTiler> noText = y -> {
            Images.feed(y, "t2;");
            y.read();
        };
        dueNoChange(x, "size", y -> y.size(1, 8));
        dueNoChange(x, "setting", y -> y.setting(1, 4));
        dueNoChange(x, "set", y -> y.set(8, 0, 0));
        dueNoChange(x, "fill", y -> y.fill(0, 0, 7, 7, 256));
        dueNoChange(x, "mask", y -> y.mask(0, 0, 8, 7, true));
        dueNoChange(x, "raise", y -> y.raise(0, 1));
        dueNoChange(x, "swap", y -> y.swap(0, 4));
        dueNoChange(x, "soften", y -> y.soften(0, 10));
        dueNoChange(x, "read of a refused item", text);
        dueNoChange(x, "read of no text", noText);
        dueNoChange(x, "restoreSnapshot without one", WaveletTiler::restoreSnapshot);
        Check.due("undo", x.undo(), 1);
        Check.due("the latest change was the mask", x.number(6), 0);
        Check.due("undo", x.undo(), 0);
        Check.due("the first change was the fill", x.number(7), 0);
    }

    private static void dueNoChange(WaveletTiler x, String name, Consumer<WaveletTiler> call) {
        String outcome = Check.outcome(() -> {
            call.accept(x);
            return "";
        });
        Check.due(name + " is refused", outcome.endsWith("Exception"), true);
        Check.due("refused " + name + " is no change", x.number(8), 2);
    }

    private static void asksAreNoChanges() {
        WaveletTiler x = begun();
        x.plan(9999);
        x.planned(0);
        x.feed('t');
        x.saveSnapshot();
        x.decoded(0, 0, 0);
        x.worst(0, 0, true);
        x.worst(0, 0, false);
        x.meanSquare(0);
        x.needed(0, 0);
        x.roots(0, 0);
        x.bits(0, -1);
        x.tile(0, 8);
        Check.due("asks are no changes", x.number(8), 2);
        Check.due("undo", x.undo(), 1);
        Check.due("the mask", x.number(6), 0);
    }

    /** "The latest 8 can be undone": 7, 8, 9 and 10 changes of each kind. */
    private static void eightChangesAndANinth() {
        for (int changes = 1; changes <= 18; changes++) {
            WaveletTiler x = new WaveletTiler();
            for (int i = 1; i <= changes; i++) {
                x.set(7, 7, i);
                Check.due("changes after " + i, x.number(8), Math.min(i, 8));
            }
            int there = Math.min(changes, 8);
            for (int i = 1; i <= there; i++) {
                Check.due("undo " + i + " of " + changes, x.undo(), there - i);
                Check.due("the pixel after undo " + i + " of " + changes, x.pixel(7, 7), changes - i);
                Check.due("changes after undo " + i, x.number(8), there - i);
            }
            Check.refused("undo one more of " + changes, STATE, x::undo);
            Check.due("the pixel then", x.pixel(7, 7), changes - there);
        }
    }

    /** "What was forgotten stays forgotten": undoing makes room again, but brings nothing back. */
    private static void forgottenStaysForgotten() {
        WaveletTiler x = new WaveletTiler();
        for (int i = 1; i <= 9; i++) {
            x.set(0, 0, i);
        }
        for (int i = 8; i >= 1; i--) {
            x.undo();
            Check.due("the pixel", x.pixel(0, 0), i);
        }
        Check.refused("the first change is forgotten", STATE, x::undo);
        x.set(0, 0, 99);
        Check.due("one change", x.number(8), 1);
        Check.due("undo", x.undo(), 0);
        Check.due("the pixel", x.pixel(0, 0), 1);
        Check.refused("it stays forgotten", STATE, x::undo);
        WaveletTiler y = new WaveletTiler();
        for (int i = 1; i <= 8; i++) {
            y.set(0, 0, i);
        }
        y.undo();
        y.set(0, 0, 50);
        Check.due("8 changes again", y.number(8), 8);
        y.set(0, 0, 51);
        for (int i = 0; i < 8; i++) {
            y.undo();
        }
        Check.due("the first is forgotten by the ninth", y.pixel(0, 0), 1);
        Check.refused("no more", STATE, y::undo);
    }

    /** Changes and undos in turn, so that the oldest one's room is used again and again. */
    private static void undoOfManyChangesInTurn() {
        WaveletTiler x = new WaveletTiler();
        int[] values = new int[64];
        int top = 0;
        int kept = 0;
        int value = 0;
        for (int round = 0; round < 12; round++) {
            for (int i = 0; i < 1 + round % 4 && top + 1 < values.length; i++) {
                value++;
                top++;
                values[top] = value;
                x.set(3, 3, value);
                kept = Math.min(kept + 1, 8);
            }
            for (int i = 0; i < round % 3 && kept > 0; i++) {
                top--;
                kept--;
                Check.due("undo in round " + round, x.undo(), kept);
            }
            Check.due("the pixel in round " + round, x.pixel(3, 3), values[top]);
            Check.due("changes in round " + round, x.number(8), kept);
        }
    }

    /** 8 changes of all kinds, each of which is undone to just what was ahead of it. */
    private static void undoBringsBackTheWholePicture() {
        for (int first = 0; first < NAMES.length; first++) {
            Supplier<WaveletTiler> maker = BEGUN;
            String[] pictures = new String[9];
            pictures[0] = State.picture(maker);
            for (int i = 1; i <= 8; i++) {
                int kind = (first + 5 * i) % NAMES.length;
                maker = Images.with(maker, x -> change(x, kind));
                pictures[i] = State.picture(maker);
            }
            Check.due("changes from " + NAMES[first], maker.get().number(8), 8);
            for (int i = 7; i >= 0; i--) {
                maker = Images.with(maker, WaveletTiler::undo);
                Check.due("from " + NAMES[first] + ": undone to " + i, State.picture(maker), pictures[i]);
            }
        }
    }

    /** A white image of 16 by 16, all of it in the mask, and a snapshot of it. */
    private static WaveletTiler largest() {
        WaveletTiler x = Images.black(16, 16, 8, 3);
        x.fill(0, 0, 15, 15, 255);
        x.mask(0, 0, 15, 15, true);
        x.saveSnapshot();
        return x;
    }

    /** Every pixel and all of the mask, up to the last pixel of the largest image, by undo and from a snapshot. */
    private static void largestPictureIsBroughtBack() {
        List<Consumer<WaveletTiler>> changes = List.of(x -> x.size(2, 2), x -> x.size(16, 16),
                x -> x.fill(0, 0, 15, 15, 0), x -> x.mask(0, 0, 15, 15, false), x -> x.set(15, 15, 0),
                x -> x.mask(15, 15, 15, 15, false), x -> x.raise(3, -255), x -> x.soften(3, 0), x -> {
                    Images.feed(x, "raApP=00;uaApP;t2;l0;b8");
                    x.read();
                });
        String due = State.picture(UndoEdgeTests::largest);
        for (int i = 0; i < changes.size(); i++) {
            Supplier<WaveletTiler> changed = Images.with(UndoEdgeTests::largest, changes.get(i));
            Check.due("change " + i + " of the largest image", State.picture(changed).equals(due), false);
            Check.due("undone change " + i + " of the largest image",
                    State.picture(Images.with(changed, WaveletTiler::undo)), due);
            Check.due("change " + i + " of the largest image, and a snapshot",
                    State.picture(Images.with(changed, WaveletTiler::restoreSnapshot)), due);
        }
    }

    /** "At most 512 calls": the last 8 of them still undo the latest changes of 504. */
    private static void lastOfAllCalls() {
        WaveletTiler x = new WaveletTiler();
        for (int i = 1; i <= 504; i++) {
            x.set(7, 7, i % 256);
        }
        for (int left = 7; left >= 1; left--) {
            Check.due("undo of 504 changes", x.undo(), left);
        }
        Check.due("the last call", x.pixel(7, 7), 497 % 256);
    }

    // ---- snapshots

    private static void noSnapshot() {
        WaveletTiler x = begun();
        Check.refused("no snapshot", STATE, x::restoreSnapshot);
        Check.due("changes then", x.number(8), 2);
        x.undo();
        Check.refused("no snapshot still", STATE, x::restoreSnapshot);
        Check.due("saveSnapshot", x.saveSnapshot(), 4);
        Check.due("restoreSnapshot", x.restoreSnapshot(), 4);
    }

    private static void snapshotOfANewObject() {
        WaveletTiler x = new WaveletTiler();
        Check.due("saveSnapshot of a new object", x.saveSnapshot(), 4);
        Check.due("it is no change", x.number(8), 0);
        for (int i = 0; i < NAMES.length; i++) {
            change(x, i);
        }
        x.size(16, 16);
        x.fill(0, 0, 15, 15, 255);
        x.mask(0, 0, 15, 15, true);
        Check.due("restoreSnapshot", x.restoreSnapshot(), 4);
        String due = State.picture(() -> new WaveletTiler());
        Check.due("the picture is new again", State.picture(() -> x), due);
    }

    private static void snapshotInPlaceOfAnEarlierOne() {
        WaveletTiler x = new WaveletTiler();
        x.set(0, 0, 1);
        x.saveSnapshot();
        x.set(0, 0, 2);
        x.size(16, 16);
        Check.due("saveSnapshot", x.saveSnapshot(), 16);
        x.size(2, 2);
        Check.due("saveSnapshot", x.saveSnapshot(), 1);
        x.size(8, 8);
        Check.due("restoreSnapshot", x.restoreSnapshot(), 1);
        Check.due("columns", x.number(0), 2);
    }

    /** "Restores the latest snapshot, which is kept." */
    private static void snapshotIsKept() {
        WaveletTiler x = begun();
        x.saveSnapshot();
        String due = State.picture(BEGUN);
        for (int i = 0; i < NAMES.length; i++) {
            change(x, i);
            Check.due("restoreSnapshot after " + NAMES[i], x.restoreSnapshot(), 4);
            Check.due("the sum after " + NAMES[i], x.number(7), 16 * 255);
            Check.due("the mask after " + NAMES[i], x.number(6), 4);
            Check.due("side, levels and boost after " + NAMES[i], 100 * x.number(2) + 10 * x.number(3) + x.number(4),
                    420);
        }
        Check.due("the picture", State.picture(() -> x), due);
    }

    /** "Nothing can be undone then": neither what was changed ahead of the snapshot nor behind it. */
    private static void nothingCanBeUndoneThen() {
        for (int changes = 0; changes <= 9; changes++) {
            WaveletTiler x = new WaveletTiler();
            x.set(0, 0, 1);
            x.saveSnapshot();
            for (int i = 0; i < changes; i++) {
                x.set(0, 0, 2 + i);
            }
            x.restoreSnapshot();
            Check.due("changes", x.number(8), 0);
            Check.refused("undo", STATE, x::undo);
            Check.due("the pixel", x.pixel(0, 0), 1);
            x.set(0, 0, 100);
            x.set(0, 0, 101);
            Check.due("changes behind it", x.number(8), 2);
            Check.due("undo", x.undo(), 1);
            Check.due("the pixel", x.pixel(0, 0), 100);
            Check.due("undo", x.undo(), 0);
            Check.due("the pixel", x.pixel(0, 0), 1);
            Check.refused("undo", STATE, x::undo);
        }
    }

    /** A snapshot stays as it was saved, whatever is undone. */
    private static void snapshotsAreNotUndone() {
        WaveletTiler x = new WaveletTiler();
        x.set(0, 0, 1);
        x.set(0, 0, 2);
        x.saveSnapshot();
        x.undo();
        x.undo();
        Check.due("the pixel", x.pixel(0, 0), 0);
        Check.due("restoreSnapshot", x.restoreSnapshot(), 4);
        Check.due("the pixel", x.pixel(0, 0), 2);
    }

    /** "Returns the number of tiles": of the picture as it is then. */
    private static void restoredSizesTellTheirTiles() {
        WaveletTiler x = Images.black(16, 16, 2, 1);
        Check.due("saveSnapshot", x.saveSnapshot(), 64);
        x.size(2, 2);
        Check.due("restoreSnapshot", x.restoreSnapshot(), 64);
        x.setting(0, 8);
        Check.due("restoreSnapshot again", x.restoreSnapshot(), 64);
        x.setting(0, 8);
        Check.due("saveSnapshot", x.saveSnapshot(), 4);
        x.size(9, 2);
        Check.due("saveSnapshot", x.saveSnapshot(), 2);
    }
}
