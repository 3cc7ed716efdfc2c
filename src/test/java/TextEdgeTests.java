import java.util.NoSuchElementException;
import java.util.function.IntPredicate;

/** The sentences of "Text" and "Refusals", and of promises 26 to 29, at their edges. */
final class TextEdgeTests {

    private static final Class<IllegalArgumentException> NO_TEXT = IllegalArgumentException.class;
    private static final Class<UnsupportedOperationException> REFUSED = UnsupportedOperationException.class;
    private static final Class<IllegalStateException> STATE = IllegalStateException.class;

    private static final String SIXTY = "raAbB=10;maAbB;uaAaA;t2;l0;b8;t4;l1;b7;t8;l2;b6;t4;l3;b5;t44";

    public static void main(String[] args) {
        emptyInput();
        fullInput();
        inputIsEmptyAfterwards();
        anyCharacterCanBeFed();
        charactersThatCanContinue();
        textsThatEndTooEarly();
        faultsBehindItems();
        faultsOfFullInputs();
        lastItemsOfLongestTexts();
        noFaultPosition();
        latestFaultIsKept();
        placesOfTheSmallestAndLargestImage();
        hexDigits();
        maskItems();
        digitsInAndOutOfRange();
        cornersAtTheEdgeOfTheImage();
        cornersBehind();
        firstReasonThatApplies();
        firstItemThatIsRefused();
        allOrNone();
        readIsOneChange();
        noRefusal();
        latestRefusalIsKept();
        Check.end("TextEdgeTests");
    }

    private static void dueFault(WaveletTiler x, String text, int fault) {
        Images.feed(x, text);
        Check.refused("read " + text, NO_TEXT, x::read);
        Check.due("faultPosition of " + text, x.faultPosition(), fault);
        Check.due("input after " + text, x.number(9), 0);
    }

    private static void dueRefused(WaveletTiler x, String text, int reason, int item) {
        Images.feed(x, text);
        Check.refused("read " + text, REFUSED, x::read);
        Check.due("reason of " + text, x.refusal(true), reason);
        Check.due("item of " + text, x.refusal(false), item);
        Check.due("input after " + text, x.number(9), 0);
    }

    private static void dueRead(WaveletTiler x, String text, int items) {
        Images.feed(x, text);
        Check.due("read " + text, x.read(), items);
        Check.due("input after " + text, x.number(9), 0);
    }

    // ---- the input

    /** An empty input is no text, as a text has an item; its length is 0. */
    private static void emptyInput() {
        WaveletTiler x = new WaveletTiler();
        dueFault(x, "", 0);
        dueFault(x, "t2x", 2);
        dueFault(x, "", 0);
        dueRead(x, "t2", 1);
        dueFault(x, "", 0);
        Check.due("reading nothing is no change", x.number(8), 1);
    }

    private static void fullInput() {
        WaveletTiler x = new WaveletTiler();
        String text = SIXTY.substring(0, 59);
        for (int i = 0; i < 59; i++) {
            Check.due("feed", x.feed(text.charAt(i)), i + 1);
            Check.due("length of the input", x.number(9), i + 1);
        }
        Check.due("feed the last one", x.feed('x'), 60);
        Check.refused("feed one more", STATE, () -> x.feed(';'));
        Check.refused("feed one more again", STATE, () -> x.feed('t'));
        Check.due("length of the input", x.number(9), 60);
        Check.refused("read", NO_TEXT, x::read);
        Check.due("what was refused is not in it", x.faultPosition(), 59);
        Check.due("feed when it is empty again", x.feed('t'), 1);
    }

    private static void inputIsEmptyAfterwards() {
        WaveletTiler x = new WaveletTiler();
        dueRead(x, "t2;l0", 2);
        dueRead(x, "b1", 1);
        dueFault(x, "t2;l0;x", 6);
        dueRead(x, "b2", 1);
        dueRefused(x, "t2;l0;b9", 3, 2);
        dueRead(x, "b3", 1);
        Check.due("the last one's", x.number(4), 3);
        Images.feed(x, "raAhH=ff;maAhH");
        x.read();
        dueFault(x, "raAhH", 5);
        Check.due("nothing is left of a longer one", x.number(7), 64 * 255);
    }

    private static void anyCharacterCanBeFed() {
        char[] characters = {0, 1, ' ', 'r', 'z', 127, 128, 255, 256, 0xd800, 0xdfff, 0xfffe, 0xffff};
        WaveletTiler x = new WaveletTiler();
        for (int i = 0; i < characters.length; i++) {
            Check.due("feed " + (int) characters[i], x.feed(characters[i]), i + 1);
        }
        dueFault(x, "", 0);
        for (char character : characters) {
            x.feed('t');
            x.feed(character);
            Check.refused("read t and " + (int) character, NO_TEXT, x::read);
            Check.due("faultPosition of t and " + (int) character, x.faultPosition(), 1);
        }
    }

    // ---- the grammar

    /** In each place of a text every character either continues it or is the fault. */
    private static void charactersThatCanContinue() {
        IntPredicate column = c -> c >= 'a' && c <= 'p';
        IntPredicate row = c -> c >= 'A' && c <= 'P';
        IntPredicate hex = c -> c >= '0' && c <= '9' || c >= 'a' && c <= 'f';
        IntPredicate digit = c -> c >= '0' && c <= '9';
        IntPredicate equals = c -> c == '=';
        IntPredicate semicolon = c -> c == ';';
        IntPredicate first = c -> "rmutlb".indexOf(c) >= 0;
        IntPredicate[] fill = {first, column, row, column, row, equals, hex, hex, semicolon, first};
        dueContinued("rbCdE=7f;", fill);
        dueContinued("rpPpP=00;", fill);
        IntPredicate[] mask = {first, column, row, column, row, semicolon, first, digit, semicolon, first};
        dueContinued("maAbB;t0;", mask);
        dueContinued("upPpP;l9;", mask);
        IntPredicate[] digits = {first, digit, semicolon, first, digit, semicolon, first, column};
        dueContinued("b9;t4;m", digits);
        dueContinued("l0;b0;u", digits);
        dueContinued("t5;l9;r", digits);
    }

    private static void dueContinued(String text, IntPredicate... fitting) {
        for (int place = 0; place < fitting.length; place++) {
            String ahead = text.substring(0, place);
            for (int c = 0; c <= 300; c++) {
                dueContinued(ahead, (char) c, fitting[place].test(c));
            }
            dueContinued(ahead, (char) 0xffff, false);
        }
    }

    /** Behind it stands a character that no text has, so that the fault is at one of these two. */
    private static void dueContinued(String ahead, char character, boolean isFitting) {
        WaveletTiler x = new WaveletTiler();
        Images.feed(x, ahead);
        x.feed(character);
        x.feed('?');
        Check.refused("read " + ahead + " and " + (int) character, NO_TEXT, x::read);
        Check.due("faultPosition of " + ahead + " and " + (int) character, x.faultPosition(),
                ahead.length() + (isFitting ? 1 : 0));
    }

    /** "Or the length of the text if it ends too early." */
    private static void textsThatEndTooEarly() {
        String[] texts = {"rbCdE=7f", "mpPpP", "uaAaA", "t4", "l0", "b8", "t2;l3;b1"};
        for (String text : texts) {
            for (int length = 0; length < text.length(); length++) {
                String start = text.substring(0, length);
                boolean isText = length == 2 && text.length() == 8 && text.charAt(2) == ';'
                        || length == 5 && text.charAt(0) == 't';
                if (!isText) {
                    dueFault(new WaveletTiler(), start, length);
                }
            }
            dueFault(new WaveletTiler(), text + ";", text.length() + 1);
            dueFault(new WaveletTiler(), text + "!", text.length());
        }
    }

    private static void faultsBehindItems() {
        WaveletTiler x = new WaveletTiler();
        dueFault(x, "t2;;l2", 3);
        dueFault(x, ";t2", 0);
        dueFault(x, "t2 ;l2", 2);
        dueFault(x, "t2; l2", 3);
        dueFault(x, "t2,l2", 2);
        dueFault(x, "raAbB=0;t2", 7);
        dueFault(x, "raAbB=000", 8);
        dueFault(x, "raAbB=0F", 7);
        dueFault(x, "raAbB=F0", 6);
        dueFault(x, "RaAbB=00", 0);
        dueFault(x, "rAabB=00", 1);
        dueFault(x, "raabB=00", 2);
        dueFault(x, "maAbB=00", 5);
        dueFault(x, "t10", 2);
        dueFault(x, "t-1", 1);
        dueFault(x, "ta", 1);
    }

    /** Each of these inputs takes some 60 calls, so that no object reads more than a few of them. */
    private static void faultsOfFullInputs() {
        WaveletTiler x = new WaveletTiler();
        dueFault(x, SIXTY, 59);
        String text = SIXTY.substring(0, 59);
        dueRead(x, text, 16);
        dueFault(x, text + ";", 60);
        dueFault(x, text + "t", 59);
        dueFault(x, "x" + text, 0);
        dueFault(x, "t4;".repeat(19) + "raA", 60);
        dueFault(x, "t4;".repeat(19) + "l;l", 58);
        dueFault(x, "t4;".repeat(19) + "l2?", 59);
    }

    /** The longest texts, of 59 characters: their last items are carried out as well. */
    private static void lastItemsOfLongestTexts() {
        WaveletTiler x = new WaveletTiler();
        dueFault(x, "t4;".repeat(20), 60);
        dueRead(x, "t4;".repeat(19) + "t2", 20);
        Check.due("the last of 20 items", x.number(2), 2);
        dueRead(x, "raAaA=00;".repeat(6) + "maAaA", 7);
        Check.due("the last of 59 characters", x.number(6), 1);
        dueRead(x, "raAaA=00;".repeat(3) + "t4;".repeat(10) + "b7", 14);
        Check.due("the last of 59 characters", x.number(4), 7);
        dueRead(x, "maAaA;".repeat(2) + "t4;".repeat(13) + "raAaA=0f", 16);
        Check.due("the last of 59 characters", x.pixel(0, 0), 15);
    }

    private static void noFaultPosition() {
        WaveletTiler x = new WaveletTiler();
        Check.refused("no fault position", NoSuchElementException.class, x::faultPosition);
        dueRead(x, "t2", 1);
        Check.refused("none after a text", NoSuchElementException.class, x::faultPosition);
        dueRefused(x, "t3", 3, 0);
        Check.refused("none after a refused item", NoSuchElementException.class, x::faultPosition);
        Check.refused("set", IllegalArgumentException.class, () -> x.set(0, 0, 256));
        Check.refused("none after a refused set", NoSuchElementException.class, x::faultPosition);
    }

    /** "The fault position stays when an item is refused." */
    private static void latestFaultIsKept() {
        WaveletTiler x = new WaveletTiler();
        dueFault(x, "t2;l", 4);
        Check.due("it stays when it is asked for", x.faultPosition(), 4);
        dueRefused(x, "t2;l2;t9", 3, 2);
        Check.due("it stays when an item is refused", x.faultPosition(), 4);
        dueRead(x, "t2;l2;t2", 3);
        Check.due("it stays when a text is read", x.faultPosition(), 4);
        x.undo();
        x.size(2, 2);
        x.saveSnapshot();
        x.restoreSnapshot();
        Check.due("it stays whatever changes", x.faultPosition(), 4);
        dueFault(x, "", 0);
        dueFault(x, "t", 1);
    }

    // ---- items

    private static void placesOfTheSmallestAndLargestImage() {
        for (int place = 0; place < 16; place++) {
            WaveletTiler x = Images.black(16, 16, 8, 3);
            char column = (char) ('a' + place);
            char row = (char) ('P' - place);
            dueRead(x, "r" + column + row + column + row + "=ff", 1);
            Check.due("the pixel", x.pixel(place, 15 - place), 255);
            Check.due("no other one", x.number(7), 255);
            dueRead(x, "m" + column + row + column + row, 1);
            Check.due("the mask", x.mask(place, 15 - place, place, 15 - place, false), 0);
        }
        WaveletTiler y = Images.black(16, 16, 8, 3);
        dueRead(y, "raApP=01", 1);
        Check.due("the whole image", y.number(7), 256);
        dueRead(y, "rpPpP=02;raAaA=03", 2);
        Check.due("the corners", 10 * y.pixel(0, 0) + y.pixel(15, 15), 32);
        WaveletTiler z = Images.black(2, 2, 2, 1);
        dueRead(z, "raAbB=01;mbBbB", 2);
        Check.due("the smallest image", 10 * z.number(7) + z.number(6), 41);
        dueRefused(z, "raAcB=01", 1, 0);
        dueRefused(z, "raAbC=01", 1, 0);
    }

    private static void hexDigits() {
        String digits = "0123456789abcdef";
        WaveletTiler x = new WaveletTiler();
        for (int i = 0; i < 16; i++) {
            x = new WaveletTiler();
            dueRead(x, "rhHhH=" + digits.charAt(i) + "0;rgHgH=0" + digits.charAt(i), 2);
            Check.due("the first digit " + i, x.pixel(7, 7), 16 * i);
            Check.due("the second digit " + i, x.pixel(6, 7), i);
        }
        dueRead(x, "raAaA=ff;rbAbA=00;rcAcA=9a;rdAdA=a9", 4);
        Check.due("ff", x.pixel(0, 0), 255);
        Check.due("00", x.pixel(1, 0), 0);
        Check.due("9a", x.pixel(2, 0), 154);
        Check.due("a9", x.pixel(3, 0), 169);
    }

    /** "Put it into the mask, take it out of the mask", of an empty mask and of a full one. */
    private static void maskItems() {
        WaveletTiler x = new WaveletTiler();
        dueRead(x, "uaAhH", 1);
        Check.due("out of an empty mask", x.number(6), 0);
        dueRead(x, "maAhH", 1);
        Check.due("all in", x.number(6), 64);
        dueRead(x, "maAhH", 1);
        Check.due("all in again", x.number(6), 64);
        dueRead(x, "uhHhH;uaAaA", 2);
        Check.due("the corners out", x.number(6), 62);
        dueRead(x, "uaAhH;mhAhH", 2);
        Check.due("one column in", x.number(6), 8);
        dueRead(x, "maHhH", 1);
        Check.due("one row in", x.number(6), 15);
        Check.due("the values stay", x.number(7), 0);
    }

    /** "A text of digits that are out of range is a text, and its item is refused." */
    private static void digitsInAndOutOfRange() {
        for (int digit = 0; digit <= 9; digit++) {
            WaveletTiler x = new WaveletTiler();
            dueDigit(x, "t" + digit, digit == 2 || digit == 4 || digit == 8, 2, digit);
            dueDigit(x, "l" + digit, digit <= 3, 3, digit);
            dueDigit(x, "b" + digit, digit <= 8, 4, digit);
        }
    }

    private static void dueDigit(WaveletTiler x, String text, boolean isRight, int what, int digit) {
        int before = x.number(what);
        if (isRight) {
            dueRead(x, text, 1);
        } else {
            dueRefused(x, text, 3, 0);
        }
        Check.due("number after " + text, x.number(what), isRight ? digit : before);
    }

    // ---- refusals

    /** "1, a corner is not in the image": the last column and row in, and the first ones beyond. */
    private static void cornersAtTheEdgeOfTheImage() {
        int[][] sizes = {{2, 2}, {2, 16}, {16, 2}, {8, 8}, {15, 15}, {7, 5}};
        for (int[] size : sizes) {
            WaveletTiler x = Images.black(size[0], size[1], 4, 2);
            String last = "" + (char) ('a' + size[0] - 1) + (char) ('A' + size[1] - 1);
            dueRead(x, "r" + last + last + "=01;m" + last + last + ";u" + last + last + ";raA" + last + "=02", 4);
            String wide = "" + (char) ('a' + size[0]) + "A";
            String high = "a" + (char) ('A' + size[1]);
            if (size[0] < 16) {
                dueRefused(x, "raA" + wide + "=00", 1, 0);
                dueRefused(x, "r" + wide + wide + "=00", 1, 0);
                dueRefused(x, "t2;maA" + wide, 1, 1);
                dueRefused(x, "u" + wide + "aA", 1, 0);
            }
            if (size[1] < 16) {
                dueRefused(x, "raA" + high + "=00", 1, 0);
                dueRefused(x, "r" + high + high + "=00", 1, 0);
                dueRefused(x, "maA" + high, 1, 0);
                dueRefused(x, "t2;l0;u" + high + "aA", 1, 2);
            }
            Check.due("the values", x.number(7), 2 * size[0] * size[1]);
        }
    }

    /** "2, the first corner is behind the last one in columns or rows": not if they are the same. */
    private static void cornersBehind() {
        for (char kind : new char[] {'r', 'm', 'u'}) {
            String end = kind == 'r' ? "=7f" : "";
            WaveletTiler x = new WaveletTiler();
            dueRead(x, kind + "hHhH" + end, 1);
            dueRead(x, kind + "dDdE" + end, 1);
            dueRead(x, kind + "dDeD" + end, 1);
            dueRefused(x, kind + "eDdD" + end, 2, 0);
            dueRefused(x, kind + "dEdD" + end, 2, 0);
            dueRefused(x, kind + "eDdH" + end, 2, 0);
            dueRefused(x, kind + "dEhD" + end, 2, 0);
            dueRefused(x, kind + "hHaA" + end, 2, 0);
        }
    }

    /** "The first that applies counts." */
    private static void firstReasonThatApplies() {
        WaveletTiler x = new WaveletTiler();
        dueRefused(x, "riAaA=00", 1, 0);
        dueRefused(x, "raIaA=00", 1, 0);
        dueRefused(x, "rbIaH=00", 1, 0);
        dueRefused(x, "mhAaI", 1, 0);
        dueRefused(x, "ubAaI", 1, 0);
        dueRefused(x, "rpPaA=ff", 1, 0);
        dueRefused(x, "rhHaA=ff", 2, 0);
    }

    private static void firstItemThatIsRefused() {
        WaveletTiler x = new WaveletTiler();
        dueRefused(x, "t9;raIaA=00;rbAaA=00", 3, 0);
        dueRefused(x, "rbAaA=00;raIaA=00;t9", 2, 0);
        dueRefused(x, "raIaA=00;rbAaA=00;t9", 1, 0);
        dueRefused(x, "t4;t9;raIaA=00", 3, 1);
        dueRefused(x, "t4;t2;raIaA=00;b9", 1, 2);
        dueRefused(x, "t4;".repeat(19) + "t0", 3, 19);
        dueRefused(x, "t1" + ";t4".repeat(19), 3, 0);
    }

    /** "Carries its items out, all of them or none", though the item that is refused is the last one. */
    private static void allOrNone() {
        WaveletTiler x = new WaveletTiler();
        x.set(0, 0, 9);
        x.mask(7, 7, 7, 7, true);
        String before = State.picture(() -> x);
        WaveletTiler y = new WaveletTiler();
        y.set(0, 0, 9);
        y.mask(7, 7, 7, 7, true);
        dueRefused(y, "raAhH=ff;maAhH;t8;l3;b8;l4", 3, 5);
        dueFault(y, "raAhH=ff;maAhH;t8;l3;b8;l", 25);
        Check.due("changes", y.number(8), 2);
        Check.due("the picture stays", State.picture(() -> y), before);
    }

    /** "Reading a text is one change", whatever the number of its items. */
    private static void readIsOneChange() {
        WaveletTiler x = new WaveletTiler();
        x.set(0, 0, 9);
        dueRead(x, "raAhH=ff;maAhH;t8;l3;b8", 5);
        Check.due("changes", x.number(8), 2);
        dueRead(x, "t4;".repeat(19) + "t4", 20);
        Check.due("changes after 20 items", x.number(8), 3);
        Check.due("undo", x.undo(), 2);
        Check.due("the side", x.number(2), 8);
        Check.due("undo", x.undo(), 1);
        int[] due = {8, 8, 4, 2, 0, 4, 0, 9};
        for (int what = 0; what < due.length; what++) {
            Check.due("number " + what + " after undo", x.number(what), due[what]);
        }
    }

    private static void noRefusal() {
        WaveletTiler x = new WaveletTiler();
        Check.refused("no reason", NoSuchElementException.class, () -> x.refusal(true));
        Check.refused("no number", NoSuchElementException.class, () -> x.refusal(false));
        dueFault(x, "t9;", 3);
        dueRead(x, "t8", 1);
        Check.refused("raise beyond", IndexOutOfBoundsException.class, () -> x.raise(1, -1));
        Check.refused("raise by much", IllegalArgumentException.class, () -> x.raise(0, 256));
        Check.refused("swap beyond", IndexOutOfBoundsException.class, () -> x.swap(0, 1));
        Check.refused("no reason still", NoSuchElementException.class, () -> x.refusal(true));
        Check.refused("no number still", NoSuchElementException.class, () -> x.refusal(false));
    }

    /** Each refusal takes the place of the one before; nothing else does. */
    private static void latestRefusalIsKept() {
        WaveletTiler x = Images.black(9, 9, 8, 3);
        dueRefused(x, "t4;t4;t9", 3, 2);
        Check.refused("swap", REFUSED, () -> x.swap(0, 1));
        dueKept(x, 6, 0);
        Check.refused("raise", REFUSED, () -> x.raise(3, -1));
        dueKept(x, 4, 80);
        x.raise(3, 255);
        dueKept(x, 4, 80);
        Check.refused("raise", REFUSED, () -> x.raise(3, 1));
        dueKept(x, 5, 80);
        Check.refused("raise", REFUSED, () -> x.raise(0, -255));
        dueKept(x, 4, 0);
        dueFault(x, "x", 0);
        dueRead(x, "t4", 1);
        x.size(2, 2);
        x.undo();
        x.saveSnapshot();
        x.restoreSnapshot();
        dueKept(x, 4, 0);
        dueRefused(x, "rjAjA=00", 1, 0);
        dueRefused(x, "t4;rbAaA=00", 2, 1);
    }

    private static void dueKept(WaveletTiler x, int reason, int number) {
        Check.due("the reason", x.refusal(true), reason);
        Check.due("the number", x.refusal(false), number);
    }
}
