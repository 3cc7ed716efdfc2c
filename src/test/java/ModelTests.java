/** Long runs of mixed calls, right and wrong ones, compared with the second writing of the document in Model. */
final class ModelTests {

    private static final int RUNS = 600;

    /** An object answers 512 calls; no step of a run takes more than LONGEST_STEP of them. */
    private static final int CALLS = 512;

    /** A character more than the input holds, and what is asked then. */
    private static final int MOST_FED = 61;
    private static final int LONGEST_STEP = MOST_FED + 4;

    private long seed;
    private final WaveletTiler tiler = new WaveletTiler();
    private final Model model = new Model();
    private final String name;
    private int call = 0;

    private ModelTests(int run) {
        seed = run * 7919L + 1;
        name = "run " + run + ", call ";
    }

    public static void main(String[] args) {
        for (int run = 0; run < RUNS; run++) {
            new ModelTests(run).go(run);
        }
        Check.end("ModelTests");
    }

    private int below(int bound) {
        seed = seed * 6364136223846793005L + 1442695040888963407L;
        return (int) ((seed >>> 33) % bound);
    }

    /** A number from least to most, now and then one beyond them. */
    private int between(int least, int most) {
        int luck = below(40);
        if (luck == 0) {
            return least - 1;
        }
        if (luck == 1) {
            return most + 1;
        }
        if (luck == 2) {
            return below(2) == 0 ? Integer.MIN_VALUE : Integer.MAX_VALUE;
        }
        return least + below(most - least + 1);
    }

    private int column() {
        return between(0, model.number(0) - 1);
    }

    private int row() {
        return between(0, model.number(1) - 1);
    }

    private int tile() {
        return between(0, model.number(5) - 1);
    }

    private int value() {
        switch (below(4)) {
            case 0:
                return between(0, 8);
            case 1:
                return between(247, 255);
            default:
                return between(0, 255);
        }
    }

    private void same(String text, Check.Call ours, Check.Call due) {
        call++;
        Check.due(name + call + ": " + text, Check.outcome(ours), Check.outcome(due));
    }

    private void go(int run) {
        resize();
        paint(run % 3);
        while (call + LONGEST_STEP <= CALLS) {
            int kind = below(100);
            if (kind < 3) {
                resize();
            } else if (kind < 10) {
                choose();
            } else if (kind < 30) {
                change();
            } else if (kind < 40) {
                edit();
            } else if (kind < 50) {
                text();
            } else if (kind < 55) {
                undoOrRestore();
            } else if (kind < 85) {
                ask();
            } else {
                askForMore();
            }
        }
        Check.due(name + call + " is no more than an object answers", call <= CALLS, true);
    }

    private void resize() {
        int columns = between(2, 16);
        int rows = between(2, 16);
        same("size " + columns + " " + rows, () -> tiler.size(columns, rows), () -> model.size(columns, rows));
    }

    /** Some or all pixels are set at first, so that there is more than rectangles in the image. */
    private void paint(int much) {
        for (int row = 0; row < model.number(1); row++) {
            for (int column = 0; column < model.number(0); column++) {
                if (below(2) < much) {
                    put(column, row, value());
                }
            }
        }
    }

    private void put(int column, int row, int value) {
        same("set " + column + " " + row + " " + value, () -> tiler.set(column, row, value),
                () -> model.set(column, row, value));
    }

    private void choose() {
        int what = between(0, 2);
        int value = what == 0 ? 2 << below(3) : what == 1 ? between(0, 3) : between(0, 8);
        int wild = below(10) == 0 ? between(-2, 10) : value;
        same("setting " + what + " " + wild, () -> tiler.setting(what, wild), () -> model.setting(what, wild));
    }

    private void change() {
        int a = column();
        int b = row();
        int c = column();
        int d = row();
        boolean isTurned = below(10) == 0;
        int left = isTurned ? Math.max(a, c) : Math.min(a, c);
        int right = isTurned ? Math.min(a, c) : Math.max(a, c);
        int top = below(10) == 0 ? Math.max(b, d) : Math.min(b, d);
        int bottom = top == b ? d : b;
        int value = value();
        boolean isIn = below(3) > 0;
        String corners = left + " " + top + " " + right + " " + bottom + " ";
        switch (below(4)) {
            case 0:
                same("fill " + corners + value, () -> tiler.fill(left, top, right, bottom, value),
                        () -> model.fill(left, top, right, bottom, value));
                break;
            case 1:
                same("mask " + corners + isIn, () -> tiler.mask(left, top, right, bottom, isIn),
                        () -> model.mask(left, top, right, bottom, isIn));
                break;
            default:
                put(a, b, value);
                break;
        }
    }

    private void edit() {
        int tile = tile();
        int other = tile();
        int by = below(2) == 0 ? between(-8, 8) : between(-255, 255);
        int layers = between(0, 9);
        switch (below(3)) {
            case 0:
                same("raise " + tile + " " + by, () -> tiler.raise(tile, by), () -> model.raise(tile, by));
                break;
            case 1:
                same("swap " + tile + " " + other, () -> tiler.swap(tile, other), () -> model.swap(tile, other));
                break;
            default:
                same("soften " + tile + " " + layers, () -> tiler.soften(tile, layers),
                        () -> model.soften(tile, layers));
                break;
        }
        same("refusal", () -> tiler.refusal(true), () -> model.refusal(true));
        same("refusal", () -> tiler.refusal(false), () -> model.refusal(false));
    }

    private void text() {
        StringBuilder text = new StringBuilder();
        int items = 1 + below(below(6) == 0 ? 20 : 3);
        for (int i = 0; i < items; i++) {
            text.append(i == 0 ? "" : ";").append(item());
        }
        if (below(3) == 0) {
            spoil(text);
        }
        text.setLength(Math.min(text.length(), MOST_FED));
        for (int i = 0; i < text.length(); i++) {
            char sign = text.charAt(i);
            same("feed " + sign, () -> tiler.feed(sign), () -> model.feed(sign));
        }
        if (below(10) > 0) {
            same("read " + text, tiler::read, model::read);
            same("faultPosition", tiler::faultPosition, model::faultPosition);
            same("refusal", () -> tiler.refusal(true), () -> model.refusal(true));
            same("refusal", () -> tiler.refusal(false), () -> model.refusal(false));
        }
    }

    private String item() {
        int a = below(model.number(0) + (below(8) == 0 ? 1 : 0)) % 16;
        int b = below(model.number(0) + (below(8) == 0 ? 1 : 0)) % 16;
        int c = below(model.number(1) + (below(8) == 0 ? 1 : 0)) % 16;
        int d = below(model.number(1) + (below(8) == 0 ? 1 : 0)) % 16;
        boolean isTurned = below(8) == 0;
        int left = isTurned ? a : Math.min(a, b);
        int top = isTurned ? c : Math.min(c, d);
        String places = "" + (char) ('a' + left) + (char) ('A' + top) + (char) ('a' + a + b - left)
                + (char) ('A' + c + d - top);
        switch (below(6)) {
            case 0:
            case 1:
                return "r" + places + "=" + "0123456789abcdef".charAt(below(16)) + "0123456789abcdef".charAt(below(16));
            case 2:
                return "m" + places;
            case 3:
                return "u" + places;
            case 4:
                return "t" + (below(5) == 0 ? below(10) : 2 << below(3));
            default:
                return (below(2) == 0 ? "l" : "b") + below(below(5) == 0 ? 10 : 4);
        }
    }

    private void spoil(StringBuilder text) {
        int place = below(text.length());
        String signs = "rmutlbaApPqQ=;09:/fgzG @\u00e9";
        switch (below(4)) {
            case 0:
                text.setLength(place);
                break;
            case 1:
                text.deleteCharAt(place);
                break;
            case 2:
                text.append(signs.charAt(below(signs.length())));
                break;
            default:
                text.setCharAt(place, signs.charAt(below(signs.length())));
                break;
        }
    }

    private void undoOrRestore() {
        switch (below(8)) {
            case 0:
                same("saveSnapshot", tiler::saveSnapshot, model::saveSnapshot);
                break;
            case 1:
                same("restoreSnapshot", tiler::restoreSnapshot, model::restoreSnapshot);
                break;
            default:
                int times = 1 + below(below(4) == 0 ? 10 : 2);
                for (int i = 0; i < times; i++) {
                    same("undo", tiler::undo, model::undo);
                }
                break;
        }
        int column = column();
        int row = row();
        same("pixel " + column + " " + row, () -> tiler.pixel(column, row), () -> model.pixel(column, row));
    }

    private void ask() {
        int tile = tile();
        int what = between(0, 9);
        int column = between(0, 7) & (below(2) == 0 ? 3 : -1);
        int row = between(0, 7) & (below(2) == 0 ? 3 : -1);
        int plane = between(0, 8);
        switch (below(8)) {
            case 0:
                same("number " + what, () -> tiler.number(what), () -> model.number(what));
                break;
            case 1:
                same("tile " + tile + " " + what, () -> tiler.tile(tile, what), () -> model.tile(tile, what));
                break;
            case 2:
                same("coefficient " + tile + " " + column + " " + row, () -> tiler.coefficient(tile, column, row),
                        () -> model.coefficient(tile, column, row));
                break;
            case 3:
                same("band " + tile + " " + column + " " + row, () -> tiler.band(tile, column, row),
                        () -> model.band(tile, column, row));
                break;
            case 4:
                same("layerOf " + tile + " " + column + " " + row + " " + plane,
                        () -> tiler.layerOf(tile, column, row, plane), () -> model.layerOf(tile, column, row, plane));
                break;
            case 5:
                same("bits " + tile + " " + (plane - 1), () -> tiler.bits(tile, plane - 1),
                        () -> model.bits(tile, plane - 1));
                break;
            case 6:
                same("descendants " + tile + " " + column + " " + row, () -> tiler.descendants(tile, column, row),
                        () -> model.descendants(tile, column, row));
                break;
            default:
                same("roots " + tile + " " + what, () -> tiler.roots(tile, what), () -> model.roots(tile, what));
                break;
        }
    }

    private void askForMore() {
        int tile = tile();
        int column = column();
        int row = row();
        int layers = between(0, 9);
        boolean isBound = below(2) == 0;
        int budget = below(3) == 0 ? between(0, 9999) : between(0, 60 * model.number(5));
        switch (below(7)) {
            case 0:
                same("needed " + column + " " + row, () -> tiler.needed(column, row), () -> model.needed(column, row));
                break;
            case 1:
                same("decoded " + layers + " " + column + " " + row, () -> tiler.decoded(layers, column, row),
                        () -> model.decoded(layers, column, row));
                break;
            case 2:
                same("worst " + layers + " " + tile + " " + isBound, () -> tiler.worst(layers, tile, isBound),
                        () -> model.worst(layers, tile, isBound));
                break;
            case 3:
                same("meanSquare " + layers, () -> tiler.meanSquare(layers), () -> model.meanSquare(layers));
                break;
            case 4:
                same("plan " + budget, () -> tiler.plan(budget), () -> model.plan(budget));
                break;
            case 5:
                same("planned " + tile, () -> tiler.planned(tile), () -> model.planned(tile));
                break;
            default:
                same("tileOf " + column + " " + row, () -> tiler.tileOf(column, row), () -> model.tileOf(column, row));
                break;
        }
    }
}
