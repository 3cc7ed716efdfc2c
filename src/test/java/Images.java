import java.util.function.Consumer;
import java.util.function.Supplier;

/** Images that several tests begin with. */
final class Images {

    private Images() {
    }

    /** 3 columns and 2 rows, one tile with 2 levels, whose coefficients are 65 -125 -2 and 6 253 -2. */
    static WaveletTiler small() {
        WaveletTiler x = new WaveletTiler();
        x.size(3, 2);
        int[] values = {5, 8, 255, 0, 1, 2};
        for (int i = 0; i < values.length; i++) {
            x.set(i % 3, i / 3, values[i]);
        }
        return x;
    }

    /** A black image without a mask, with a side and levels. */
    static WaveletTiler black(int columns, int rows, int side, int levels) {
        WaveletTiler x = new WaveletTiler();
        x.size(columns, rows);
        x.setting(0, side);
        x.setting(1, levels);
        return x;
    }

    /** The values of a tile, row by row. */
    static void paint(WaveletTiler x, int tile, int... values) {
        int left = x.tile(tile, 0);
        int top = x.tile(tile, 1);
        int width = x.tile(tile, 2);
        for (int i = 0; i < values.length; i++) {
            x.set(left + i % width, top + i / width, values[i]);
        }
    }

    static void feed(WaveletTiler x, String text) {
        for (int i = 0; i < text.length(); i++) {
            x.feed(text.charAt(i));
        }
    }

    /** An object with a little of everything: 8 changes, a snapshot, a plan, a fault, a refusal and an input. */
    static WaveletTiler full() {
        WaveletTiler x = new WaveletTiler();
        x.size(7, 5);
        x.fill(1, 1, 5, 3, 77);
        x.mask(0, 0, 2, 2, true);
        x.saveSnapshot();
        x.plan(200);
        feed(x, "l3;t2;x");
        Check.outcome(x::read);
        feed(x, "l3;t3");
        Check.outcome(x::read);
        x.set(6, 4, 255);
        x.setting(1, 3);
        x.setting(2, 1);
        x.raise(2, 10);
        x.swap(0, 0);
        x.soften(1, 2);
        feed(x, "raAaE=ff;mgEgE");
        x.read();
        feed(x, "rfAgB=7f;b4");
        return x;
    }

    /** The same making with one more call, whatever it answers. */
    static Supplier<WaveletTiler> with(Supplier<WaveletTiler> maker, Consumer<WaveletTiler> call) {
        return () -> {
            WaveletTiler x = maker.get();
            Check.outcome(() -> {
                call.accept(x);
                return "";
            });
            return x;
        };
    }
}
