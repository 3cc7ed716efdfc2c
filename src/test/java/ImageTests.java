/** Promises 1 to 8: the new object, the image and the settings. */
final class ImageTests {

    private static final Class<IllegalArgumentException> ARGUMENT = IllegalArgumentException.class;
    private static final Class<IndexOutOfBoundsException> INDEX = IndexOutOfBoundsException.class;

    public static void main(String[] args) {
        promise1NewObject();
        promise2Size();
        promise2SizeRefused();
        promise3Setting();
        promise3SettingRefused();
        promise4Number();
        promise5Set();
        promise6Pixel();
        promise7Fill();
        promise7FillRefused();
        promise8Mask();
        promise8MaskRefused();
        Check.end("ImageTests");
    }

    private static void promise1NewObject() {
        WaveletTiler x = new WaveletTiler();
        int[] due = {8, 8, 4, 2, 0, 4, 0, 0, 0, 0};
        for (int what = 0; what < due.length; what++) {
            Check.due("new: number " + what, x.number(what), due[what]);
        }
        for (int row = 0; row < 8; row++) {
            for (int column = 0; column < 8; column++) {
                Check.due("new: pixel " + column + " " + row, x.pixel(column, row), 0);
            }
        }
        Check.refused("new: undo", IllegalStateException.class, x::undo);
        Check.refused("new: restoreSnapshot", IllegalStateException.class, x::restoreSnapshot);
        Check.refused("new: planned", java.util.NoSuchElementException.class, () -> x.planned(0));
        Check.refused("new: faultPosition", java.util.NoSuchElementException.class, x::faultPosition);
        Check.refused("new: refusal", java.util.NoSuchElementException.class, () -> x.refusal(false));
    }

    private static void promise2Size() {
        WaveletTiler x = new WaveletTiler();
        x.setting(0, 2);
        x.setting(1, 3);
        x.setting(2, 5);
        x.fill(0, 0, 7, 7, 9);
        x.mask(0, 0, 7, 7, true);
        Check.due("size 16 16", x.size(16, 16), 64);
        Check.due("size 16 16: columns", x.number(0), 16);
        Check.due("size 16 16: rows", x.number(1), 16);
        Check.due("size keeps the side", x.number(2), 2);
        Check.due("size keeps the levels", x.number(3), 3);
        Check.due("size keeps the boost", x.number(4), 5);
        Check.due("size empties the mask", x.number(6), 0);
        Check.due("size clears the values", x.number(7), 0);
        Check.due("size is a change", x.number(8), 6);
        Check.due("size 2 3", x.size(2, 3), 2);
        Check.due("size 2 3 again", x.size(2, 3), 2);
        Check.due("size that changes nothing is a change", x.number(8), 8);
        x.setting(0, 8);
        Check.due("size 9 16 with side 8", x.size(9, 16), 4);
    }

    private static void promise2SizeRefused() {
        WaveletTiler x = new WaveletTiler();
        x.fill(0, 0, 7, 7, 1);
        Check.refused("size 1 8", ARGUMENT, () -> x.size(1, 8));
        Check.refused("size 17 8", ARGUMENT, () -> x.size(17, 8));
        Check.refused("size 8 1", ARGUMENT, () -> x.size(8, 1));
        Check.refused("size 8 17", ARGUMENT, () -> x.size(8, 17));
        Check.refused("size least", ARGUMENT, () -> x.size(Integer.MIN_VALUE, Integer.MAX_VALUE));
        Check.due("refused size leaves the image", x.number(7), 64);
        Check.due("refused size is no change", x.number(8), 1);
    }

    private static void promise3Setting() {
        WaveletTiler x = new WaveletTiler();
        Check.due("setting side 8", x.setting(0, 8), 4);
        Check.due("setting side 2", x.setting(0, 2), 8);
        Check.due("setting side 4", x.setting(0, 4), 2);
        Check.due("setting levels 0", x.setting(1, 0), 2);
        Check.due("setting levels 3", x.setting(1, 3), 0);
        Check.due("setting boost 8", x.setting(2, 8), 0);
        Check.due("setting boost 8 again", x.setting(2, 8), 8);
        Check.due("setting boost 0", x.setting(2, 0), 8);
        Check.due("each setting is a change", x.number(8), 8);
        Check.due("side", x.number(2), 4);
        Check.due("levels", x.number(3), 3);
        Check.due("boost", x.number(4), 0);
        x.setting(0, 2);
        Check.due("the side divides the image", x.number(5), 16);
    }

    private static void promise3SettingRefused() {
        WaveletTiler x = new WaveletTiler();
        for (int value : new int[] {-4, 0, 1, 3, 5, 6, 7, 9, 16}) {
            Check.refused("setting side " + value, ARGUMENT, () -> x.setting(0, value));
        }
        Check.refused("setting levels -1", ARGUMENT, () -> x.setting(1, -1));
        Check.refused("setting levels 4", ARGUMENT, () -> x.setting(1, 4));
        Check.refused("setting boost -1", ARGUMENT, () -> x.setting(2, -1));
        Check.refused("setting boost 9", ARGUMENT, () -> x.setting(2, 9));
        Check.refused("setting -1", ARGUMENT, () -> x.setting(-1, 2));
        Check.refused("setting 3", ARGUMENT, () -> x.setting(3, 2));
        Check.due("refused setting is no change", x.number(8), 0);
        Check.due("refused setting leaves the side", x.number(2), 4);
    }

    private static void promise4Number() {
        WaveletTiler x = new WaveletTiler();
        x.size(7, 5);
        x.setting(0, 2);
        x.setting(1, 1);
        x.setting(2, 6);
        x.fill(0, 0, 6, 4, 255);
        x.mask(5, 3, 6, 4, true);
        x.feed('r');
        x.feed('?');
        x.feed((char) 5000);
        int[] due = {7, 5, 2, 1, 6, 12, 4, 35 * 255, 6, 3};
        for (int what = 0; what < due.length; what++) {
            Check.due("number " + what, x.number(what), due[what]);
        }
        Check.refused("number -1", ARGUMENT, () -> x.number(-1));
        Check.refused("number 10", ARGUMENT, () -> x.number(10));
        for (int i = 0; i < 4; i++) {
            x.set(0, 0, 0);
        }
        Check.due("at most 8 changes are kept", x.number(8), 8);
    }

    private static void promise5Set() {
        WaveletTiler x = new WaveletTiler();
        x.size(5, 3);
        Check.due("set 4 2 255", x.set(4, 2, 255), 0);
        Check.due("set 4 2 0", x.set(4, 2, 0), 255);
        Check.due("set 4 2 17", x.set(4, 2, 17), 0);
        Check.due("set 4 2 17 again", x.set(4, 2, 17), 17);
        Check.due("each set is a change", x.number(8), 5);
        Check.due("set changes one pixel", x.number(7), 17);
        Check.due("set changes this pixel", x.pixel(4, 2), 17);
        Check.refused("set 5 0", INDEX, () -> x.set(5, 0, 1));
        Check.refused("set 0 3", INDEX, () -> x.set(0, 3, 1));
        Check.refused("set -1 0", INDEX, () -> x.set(-1, 0, 1));
        Check.refused("set 0 -1", INDEX, () -> x.set(0, -1, 1));
        Check.refused("set 0 0 -1", ARGUMENT, () -> x.set(0, 0, -1));
        Check.refused("set 0 0 256", ARGUMENT, () -> x.set(0, 0, 256));
        Check.refused("set 5 0 256: the pixel comes first", INDEX, () -> x.set(5, 0, 256));
        Check.due("refused set is no change", x.number(8), 5);
        Check.due("refused set leaves the values", x.number(7), 17);
    }

    private static void promise6Pixel() {
        WaveletTiler x = new WaveletTiler();
        x.size(16, 2);
        x.set(15, 1, 200);
        x.set(15, 0, 100);
        Check.due("pixel 15 1", x.pixel(15, 1), 200);
        Check.due("pixel 15 0", x.pixel(15, 0), 100);
        Check.due("pixel 0 1", x.pixel(0, 1), 0);
        Check.refused("pixel 16 0", INDEX, () -> x.pixel(16, 0));
        Check.refused("pixel 0 2", INDEX, () -> x.pixel(0, 2));
        Check.refused("pixel -1 1", INDEX, () -> x.pixel(-1, 1));
        Check.refused("pixel 1 -1", INDEX, () -> x.pixel(1, -1));
        Check.refused("pixel least", INDEX, () -> x.pixel(Integer.MIN_VALUE, Integer.MIN_VALUE));
        Check.refused("pixel most", INDEX, () -> x.pixel(Integer.MAX_VALUE, Integer.MAX_VALUE));
        Check.due("pixel is no change", x.number(8), 3);
    }

    private static void promise7Fill() {
        WaveletTiler x = new WaveletTiler();
        Check.due("fill 1 2 3 5", x.fill(1, 2, 3, 5, 10), 12);
        Check.due("fill 1 2 3 5 again", x.fill(1, 2, 3, 5, 10), 0);
        Check.due("fill counts what is different then", x.fill(3, 5, 4, 6, 10), 3);
        Check.due("fill: the first corner", x.pixel(1, 2), 10);
        Check.due("fill: the last corner", x.pixel(3, 5), 10);
        Check.due("fill: outside", x.pixel(0, 2), 0);
        Check.due("fill: sum", x.number(7), 150);
        Check.due("fill one pixel", x.fill(7, 7, 7, 7, 255), 1);
        Check.due("fill with 0", x.fill(0, 0, 7, 7, 0), 16);
        Check.due("each fill is a change", x.number(8), 5);
    }

    private static void promise7FillRefused() {
        WaveletTiler x = new WaveletTiler();
        Check.refused("fill -1", INDEX, () -> x.fill(-1, 0, 1, 1, 5));
        Check.refused("fill top -1", INDEX, () -> x.fill(0, -1, 1, 1, 5));
        Check.refused("fill right 8", INDEX, () -> x.fill(0, 0, 8, 1, 5));
        Check.refused("fill bottom 8", INDEX, () -> x.fill(0, 0, 1, 8, 5));
        Check.refused("fill 2 0 1 0", ARGUMENT, () -> x.fill(2, 0, 1, 0, 5));
        Check.refused("fill 0 2 0 1", ARGUMENT, () -> x.fill(0, 2, 0, 1, 5));
        Check.refused("fill value -1", ARGUMENT, () -> x.fill(0, 0, 1, 1, -1));
        Check.refused("fill value 256", ARGUMENT, () -> x.fill(0, 0, 1, 1, 256));
        Check.refused("fill: the corner comes first", INDEX, () -> x.fill(8, 0, 1, 1, 256));
        Check.due("refused fill is no change", x.number(8), 0);
        Check.due("refused fill leaves the values", x.number(7), 0);
    }

    private static void promise8Mask() {
        WaveletTiler x = new WaveletTiler();
        Check.due("mask 0 0 3 1", x.mask(0, 0, 3, 1, true), 8);
        Check.due("mask 2 1 5 2", x.mask(2, 1, 5, 2, true), 14);
        Check.due("mask 2 1 5 2 again", x.mask(2, 1, 5, 2, true), 14);
        Check.due("mask out", x.mask(0, 0, 2, 7, false), 7);
        Check.due("mask one in", x.mask(7, 7, 7, 7, true), 8);
        Check.due("mask is counted", x.number(6), 8);
        Check.due("each mask is a change", x.number(8), 5);
        Check.due("mask all out", x.mask(0, 0, 7, 7, false), 0);
        Check.due("mask leaves the values", x.number(7), 0);
    }

    private static void promise8MaskRefused() {
        WaveletTiler x = new WaveletTiler();
        Check.refused("mask -1", INDEX, () -> x.mask(-1, 0, 1, 1, true));
        Check.refused("mask top 8", INDEX, () -> x.mask(0, 8, 1, 8, true));
        Check.refused("mask right 8", INDEX, () -> x.mask(0, 0, 8, 1, false));
        Check.refused("mask bottom -1", INDEX, () -> x.mask(0, 0, 1, -1, false));
        Check.refused("mask 2 0 1 0", ARGUMENT, () -> x.mask(2, 0, 1, 0, true));
        Check.refused("mask 0 2 0 1", ARGUMENT, () -> x.mask(0, 2, 0, 1, false));
        Check.refused("mask: the corner comes first", INDEX, () -> x.mask(7, 0, 0, 8, true));
        Check.due("refused mask is no change", x.number(8), 0);
        Check.due("refused mask leaves the mask", x.number(6), 0);
    }
}
