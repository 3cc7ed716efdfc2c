import java.util.function.Supplier;

/**
 * All that can be seen of an object, as a text, so that a test can say that a call leaves the state as it was. Each
 * part asks a new object of the same making, as asking changes some of it and an object answers 512 calls.
 */
final class State {

    private State() {
    }

    static String of(Supplier<WaveletTiler> maker) {
        return kept(maker) + plan(maker.get()) + input(maker.get()) + snapshot(maker) + history(maker);
    }

    /** The state without the input and what is kept of refused calls. */
    static String withoutKept(Supplier<WaveletTiler> maker) {
        return plan(maker.get()) + snapshot(maker) + history(maker);
    }

    /** All but the picture and the changes that can be undone. */
    static String besidesPicture(Supplier<WaveletTiler> maker) {
        return kept(maker) + plan(maker.get()) + reading(maker.get()) + snapshot(maker);
    }

    /** The image, the mask and the settings. */
    static String picture(Supplier<WaveletTiler> maker) {
        return values(maker.get()) + mask(maker.get());
    }

    /** The length of the input, the fault position and the refusal. */
    static String kept(Supplier<WaveletTiler> maker) {
        return "input " + maker.get().number(9) + ", fault " + Check.outcome(() -> maker.get().faultPosition())
                + ", refusal " + Check.outcome(() -> maker.get().refusal(true)) + " "
                + Check.outcome(() -> maker.get().refusal(false)) + "\n";
    }

    static String plan(WaveletTiler x) {
        StringBuilder text = new StringBuilder("plan");
        for (int tile = 0; tile <= 64; tile++) {
            int asked = tile;
            text.append(' ').append(Check.outcome(() -> x.planned(asked)));
        }
        return text.append('\n').toString();
    }

    /** The characters of the input cannot be asked for: what reading them does tells them apart. */
    private static String input(WaveletTiler x) {
        return reading(x) + values(x);
    }

    private static String reading(WaveletTiler x) {
        return "read " + Check.outcome(x::read) + ", fault " + Check.outcome(x::faultPosition) + "\n";
    }

    static String snapshot(Supplier<WaveletTiler> maker) {
        String outcome = Check.outcome(() -> maker.get().restoreSnapshot());
        return "snapshot " + outcome + "\n" + picture(() -> {
            WaveletTiler x = maker.get();
            Check.outcome(x::restoreSnapshot);
            return x;
        });
    }

    /** The picture as it is now, and after each undo that there is. */
    static String history(Supplier<WaveletTiler> maker) {
        int changes = maker.get().number(8);
        StringBuilder text = new StringBuilder("changes ").append(changes).append('\n');
        for (int i = 0; i <= changes; i++) {
            int times = i;
            text.append(picture(() -> {
                WaveletTiler x = maker.get();
                for (int undone = 0; undone < times; undone++) {
                    x.undo();
                }
                return x;
            }));
        }
        return text.toString();
    }

    private static String values(WaveletTiler x) {
        StringBuilder text = new StringBuilder("numbers");
        for (int what = 0; what <= 7; what++) {
            text.append(' ').append(x.number(what));
        }
        int columns = x.number(0);
        int rows = x.number(1);
        text.append("\nvalues");
        for (int row = 0; row < rows; row++) {
            for (int column = 0; column < columns; column++) {
                text.append(' ').append(x.pixel(column, row));
            }
        }
        return text.append('\n').toString();
    }

    /** Without levels a coefficient is made of its own pixel alone, and the greatest boost tells if it is masked. */
    private static String mask(WaveletTiler x) {
        x.setting(0, 8);
        x.setting(1, 0);
        x.setting(2, 8);
        int columns = x.number(0);
        int rows = x.number(1);
        int across = (columns + 7) / 8;
        StringBuilder text = new StringBuilder("mask ");
        for (int row = 0; row < rows; row++) {
            for (int column = 0; column < columns; column++) {
                int tile = row / 8 * across + column / 8;
                text.append(x.layerOf(tile, column % 8, row % 8, 0) == 0 ? '1' : '0');
            }
        }
        return text.append('\n').toString();
    }
}
