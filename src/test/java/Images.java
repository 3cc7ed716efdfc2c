/** An image that several tests begin with. */
final class Images {

    private Images() {
    }

    /** 3 columns and 2 rows, one tile with 2 levels, whose coefficients are 65 -125 -2 and 6 253 -2. */
    static WaveletTiler small() {
        WaveletTiler x = new WaveletTiler();
        x.size(3, 2);
        int[] values = {5, 8, 255, 0, 1, 2};
        for (int i = 0; i < values.length; i++) {
            x.set(i % 3, i / 3, values[i]);
        }
        return x;
    }
}
