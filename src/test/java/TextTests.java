import java.util.NoSuchElementException;

/** Promises 26 to 29: texts. */
final class TextTests {

    private static final Class<IllegalArgumentException> NO_TEXT = IllegalArgumentException.class;
    private static final Class<UnsupportedOperationException> REFUSED = UnsupportedOperationException.class;

    public static void main(String[] args) {
        promise26Feed();
        promise27Read();
        promise27ReadTwentyItems();
        promise27AllOrNone();
        promise28FaultPosition();
        promise28FaultPositionStays();
        promise29Refusal();
        promise29RefusalStays();
        Check.end("TextTests");
    }

    private static void promise26Feed() {
        WaveletTiler x = new WaveletTiler();
        for (int i = 1; i <= 60; i++) {
            char sign = (char) (i * 1111);
            Check.due("feed " + i, x.feed(sign), i);
        }
        Check.refused("feed 61", IllegalStateException.class, () -> x.feed('r'));
        Check.due("a refused character is not kept", x.number(9), 60);
        Check.refused("read what is no text", NO_TEXT, x::read);
        Check.due("feed after read", x.feed('t'), 1);
        Check.due("feed is no change", x.number(8), 0);
    }

    private static void promise27Read() {
        WaveletTiler x = new WaveletTiler();
        Images.feed(x, "raAcB=7f;mbAbB;t8;l3;b5;ubBbB");
        Check.due("read", x.read(), 6);
        Check.due("read empties the input", x.number(9), 0);
        Check.due("read: a filled pixel", x.pixel(2, 1), 127);
        Check.due("read: the values", x.number(7), 6 * 127);
        Check.due("read: the mask", x.number(6), 1);
        Check.due("read: the side", x.number(2), 8);
        Check.due("read: the levels", x.number(3), 3);
        Check.due("read: the boost", x.number(4), 5);
        Check.due("read is one change", x.number(8), 1);
        x.undo();
        Check.due("undone read: the values", x.number(7), 0);
        Check.due("undone read: the side", x.number(2), 4);
        Images.feed(x, "maAbB;uaAaA");
        Check.due("read two masks", x.read(), 2);
        Check.due("read two masks: the mask", x.number(6), 3);
        x.undo();
        Check.due("undone read: the mask", x.number(6), 0);
        Images.feed(x, "raAhH=ff;raAaA=0a");
        Check.due("read two fills", x.read(), 2);
        Check.due("read: items in their order", x.number(7), 63 * 255 + 10);
        Images.feed(x, "raAaA=0a");
        Check.due("read what changes nothing", x.read(), 1);
        Check.due("read what changes nothing is a change", x.number(8), 2);
    }

    private static void promise27ReadTwentyItems() {
        WaveletTiler x = new WaveletTiler();
        Images.feed(x, "t2;l0;l1;l2;l3;b0;b1;b2;b3;b4;b5;b6;b7;b8;t4;t2;t8;t4;l2;b1");
        Check.due("read 20 items", x.read(), 20);
        Check.due("read 20 items: the boost", x.number(4), 1);
        Images.feed(x, "t2;l0;l1;l2;l3;b0;b1;b2;b3;b4;b5;b6;b7;b8;t4;t2;t8;t4;l2;b1;");
        Check.refused("read 20 items and a semicolon", NO_TEXT, x::read);
        Check.due("fault behind 20 items", x.faultPosition(), 60);
        x.size(16, 16);
        Images.feed(x, "rpPpP=12;mpPpP;raAaP=9a");
        Check.due("read in the greatest image", x.read(), 3);
        Check.due("read: the last corner", x.pixel(15, 15), 18);
        Check.due("read: the last row", x.pixel(0, 15), 154);
    }

    private static void promise27AllOrNone() {
        WaveletTiler x = new WaveletTiler();
        Images.feed(x, "raAaA=11;t3");
        Check.refused("read with a refused item", REFUSED, x::read);
        Check.due("refused read carries nothing out", x.number(7), 0);
        Check.due("refused read is no change", x.number(8), 0);
        Check.due("refused read empties the input", x.number(9), 0);
        Images.feed(x, "raAaA=11;t3;");
        Check.refused("read of no text with a refused item", NO_TEXT, x::read);
        Check.due("no text carries nothing out", x.number(7), 0);
        Check.due("no text is no change", x.number(8), 0);
        Check.due("no text empties the input", x.number(9), 0);
        Check.due("no text leaves the refusal", x.refusal(false), 1);
    }

    private static void promise28FaultPosition() {
        WaveletTiler x = new WaveletTiler();
        Check.refused("no fault position", NoSuchElementException.class, x::faultPosition);
        Object[][] due = {{"", 0}, {"x", 0}, {";", 0}, {"R", 0}, {"r", 1}, {"rA", 1}, {"rq", 1}, {"ra", 2}, {"raa", 2},
            {"raQ", 2}, {"raA", 3}, {"raA=", 3}, {"raAb", 4}, {"raAbb", 4}, {"raAbB", 5}, {"raAbB;", 5}, {"raAbB=", 6},
            {"raAbB=A", 6}, {"raAbB=g", 6}, {"raAbB=/", 6}, {"raAbB=:", 6}, {"raAbB=0", 7}, {"raAbB=0`", 7},
            {"raAbB=00", -1}, {"raAbB=000", 8}, {"raAbB=00;", 9}, {"raAbB=00;;", 9}, {"m", 1}, {"maAbB=", 5},
            {"uaAb", 4}, {"uaAbB;m", 7}, {"t", 1}, {"ta", 1}, {"t;", 1}, {"t44", 2}, {"l2l", 2}, {"b0 ", 2},
            {"b:", 1}, {"b/", 1}, {"l\u0132", 1}, {"\uffff", 0}, {"t2;;", 3}, {"t2;l", 4}, {"ro`", 2}, {"r@", 1}};
        for (Object[] row : due) {
            Images.feed(x, (String) row[0]);
            if ((int) row[1] < 0) {
                Check.due("read " + row[0], x.read(), 1);
            } else {
                Check.refused("read " + row[0], NO_TEXT, x::read);
                Check.due("faultPosition of " + row[0], x.faultPosition(), row[1]);
            }
        }
    }

    private static void promise28FaultPositionStays() {
        WaveletTiler x = new WaveletTiler();
        x.set(0, 0, 1);
        Images.feed(x, "t2;x");
        Check.refused("read", NO_TEXT, x::read);
        Images.feed(x, "t3");
        Check.refused("read t3", REFUSED, x::read);
        Check.due("it stays when an item is refused", x.faultPosition(), 3);
        x.saveSnapshot();
        x.undo();
        x.restoreSnapshot();
        Images.feed(x, "t2");
        x.read();
        Check.due("it stays when a text is read", x.faultPosition(), 3);
        Images.feed(x, "t");
        Check.due("it stays while the input grows", x.faultPosition(), 3);
    }

    private static void promise29Refusal() {
        WaveletTiler x = new WaveletTiler();
        Check.refused("no refusal", NoSuchElementException.class, () -> x.refusal(true));
        Object[][] due = {{"raAiA=01", 1, 0}, {"raAaI=01", 1, 0}, {"riAaA=01", 1, 0}, {"t2;maIaI", 1, 1},
            {"rbAaA=01", 2, 0}, {"l0;l1;uaBaA", 2, 2}, {"mpAaA", 1, 0}, {"t0", 3, 0}, {"t1", 3, 0}, {"t3", 3, 0},
            {"t6", 3, 0}, {"t9", 3, 0}, {"l4", 3, 0}, {"b9", 3, 0}, {"t8;b8;l9;t9;rpPpP=00", 3, 2}};
        for (Object[] row : due) {
            Images.feed(x, (String) row[0]);
            Check.refused("read " + row[0], REFUSED, x::read);
            Check.due("reason of " + row[0], x.refusal(true), row[1]);
            Check.due("item of " + row[0], x.refusal(false), row[2]);
        }
        Check.due("nothing was carried out", x.number(8), 0);
    }

    private static void promise29RefusalStays() {
        WaveletTiler x = new WaveletTiler();
        x.size(5, 4);
        Check.refused("swap", REFUSED, () -> x.swap(0, 1));
        Check.due("swap: reason", x.refusal(true), 6);
        Check.refused("raise", REFUSED, () -> x.raise(1, -1));
        Check.due("raise: reason", x.refusal(true), 4);
        Check.due("raise: pixel", x.refusal(false), 4);
        x.saveSnapshot();
        x.undo();
        x.restoreSnapshot();
        x.raise(1, 1);
        Check.due("it stays: reason", x.refusal(true), 4);
        Check.due("it stays: number", x.refusal(false), 4);
    }
}
