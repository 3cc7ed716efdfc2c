/** Promises 30 to 32: undo and snapshots. */
final class UndoTests {

    private static final Class<IllegalStateException> STATE = IllegalStateException.class;

    public static void main(String[] args) {
        promise30Undo();
        promise30UndoForgets();
        promise30UndoBringsAllBack();
        promise30OthersStay();
        promise31SaveSnapshot();
        promise32RestoreSnapshot();
        Check.end("UndoTests");
    }

    private static void promise30Undo() {
        WaveletTiler x = new WaveletTiler();
        Check.refused("undo nothing", STATE, x::undo);
        x.set(0, 0, 1);
        x.set(0, 0, 2);
        x.set(0, 0, 2);
        Check.due("undo", x.undo(), 2);
        Check.due("undone what changed nothing", x.pixel(0, 0), 2);
        Check.due("undo", x.undo(), 1);
        Check.due("undone", x.pixel(0, 0), 1);
        x.set(0, 0, 9);
        Check.due("a change after an undo", x.number(8), 2);
        Check.due("undo", x.undo(), 1);
        Check.due("undone", x.pixel(0, 0), 1);
        Check.due("undo", x.undo(), 0);
        Check.due("undone", x.pixel(0, 0), 0);
        Check.refused("undo nothing", STATE, x::undo);
        Check.due("refused undo leaves the image", x.pixel(0, 0), 0);
    }

    private static void promise30UndoForgets() {
        WaveletTiler x = new WaveletTiler();
        for (int value = 1; value <= 30; value++) {
            x.set(3, 3, value);
            Check.due("kept after " + value, x.number(8), Math.min(8, value));
        }
        for (int left = 7; left >= 0; left--) {
            Check.due("undo", x.undo(), left);
            Check.due("undone", x.pixel(3, 3), 22 + left);
        }
        Check.refused("undo what is forgotten", STATE, x::undo);
        Check.due("what is forgotten stays", x.pixel(3, 3), 22);
        x.set(3, 3, 99);
        Check.due("undo", x.undo(), 0);
        Check.refused("what was forgotten stays forgotten", STATE, x::undo);
    }

    private static void promise30UndoBringsAllBack() {
        WaveletTiler x = new WaveletTiler();
        x.setting(0, 2);
        x.setting(1, 1);
        x.setting(2, 7);
        x.fill(0, 0, 7, 7, 20);
        x.mask(0, 0, 1, 1, true);
        x.set(7, 7, 30);
        String before = numbers(x);
        x.size(16, 5);
        x.mask(0, 0, 15, 4, true);
        x.undo();
        Check.due("undone mask", x.number(6), 0);
        x.undo();
        Check.due("undone size", numbers(x), before);
        Check.due("undone size: the values stand where they were", x.pixel(7, 7), 30);
        Check.due("undone size: the mask stands where it was", x.tile(0, 5), 4);
        x.setting(0, 8);
        x.setting(1, 3);
        x.setting(2, 0);
        x.undo();
        x.undo();
        x.undo();
        Check.due("undone settings", numbers(x), before);
        x.raise(15, 1);
        x.swap(0, 15);
        x.soften(3, 0);
        x.undo();
        x.undo();
        x.undo();
        Check.due("undone edits", numbers(x), before);
        Check.due("undone edits: the values", x.tile(15, 8), 90);
    }

    private static String numbers(WaveletTiler x) {
        StringBuilder numbers = new StringBuilder();
        for (int what = 0; what <= 7; what++) {
            numbers.append(x.number(what)).append(' ');
        }
        return numbers.toString();
    }

    private static void promise30OthersStay() {
        WaveletTiler x = new WaveletTiler();
        x.feed('t');
        x.set(0, 0, 255);
        x.plan(9999);
        Check.refused("raise", UnsupportedOperationException.class, () -> x.raise(0, 1));
        x.undo();
        Check.due("the input stays", x.number(9), 1);
        Check.due("the plan stays", x.planned(0), 9);
        Check.due("the refusal stays", x.refusal(true), 5);
        x.saveSnapshot();
        x.feed('2');
        x.plan(0);
        x.restoreSnapshot();
        Check.due("the input stays", x.number(9), 2);
        Check.due("the plan stays", x.planned(0), 0);
        Check.due("the refusal stays", x.refusal(true), 5);
    }

    private static void promise31SaveSnapshot() {
        WaveletTiler x = new WaveletTiler();
        x.size(9, 9);
        x.set(8, 8, 5);
        Check.due("saveSnapshot", x.saveSnapshot(), 9);
        Check.due("saveSnapshot leaves what can be undone", x.number(8), 2);
        x.set(8, 8, 6);
        x.setting(0, 8);
        Check.due("saveSnapshot in place of the earlier", x.saveSnapshot(), 4);
        x.set(8, 8, 7);
        x.setting(0, 2);
        Check.due("restoreSnapshot", x.restoreSnapshot(), 4);
        Check.due("the latest snapshot is restored", x.pixel(8, 8), 6);
    }

    private static void promise32RestoreSnapshot() {
        WaveletTiler x = new WaveletTiler();
        x.set(1, 1, 1);
        Check.refused("restoreSnapshot without one", STATE, x::restoreSnapshot);
        Check.due("what can be undone stays", x.number(8), 1);
        x.mask(0, 0, 1, 0, true);
        x.setting(2, 4);
        x.saveSnapshot();
        String saved = numbers(x);
        x.size(2, 2);
        x.setting(0, 2);
        x.setting(1, 0);
        x.setting(2, 0);
        x.fill(0, 0, 1, 1, 200);
        Check.due("restoreSnapshot", x.restoreSnapshot(), 4);
        Check.due("restored", numbers(x), saved);
        Check.due("restored: a pixel", x.pixel(1, 1), 1);
        Check.refused("nothing can be undone", STATE, x::undo);
        x.set(1, 1, 2);
        Check.due("changes after it can be undone", x.undo(), 0);
        Check.due("undone to the snapshot", x.pixel(1, 1), 1);
        x.fill(0, 0, 7, 7, 3);
        Check.due("the snapshot is kept", x.restoreSnapshot(), 4);
        Check.due("restored again", numbers(x), saved);
    }
}
