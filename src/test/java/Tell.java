/** Texts told to a WheelBook by way of its tape. */
final class Tell {
    static final String LEVEL = "climate 0 300 300 300 300 300 300 300 300 300 300 300 300;";
    static final String STEEP = "climate 1 200 240 280 320 360 400 400 360 320 280 240 200;";

    private Tell() {
    }

    /** Feeds the text, filled up with blanks to whole twenties. */
    static int feed(WheelBook x, String text) {
        int last = WheelBook.NONE;
        for (int at = 0; at < text.length(); at += 20) {
            int[] five = new int[5];
            for (int i = 0; i < 20; i++) {
                int b = at + i < text.length() ? text.charAt(at + i) : ' ';
                five[i / 4] = five[i / 4] << 8 | b & 255;
            }
            last = x.feed(five[0], five[1], five[2], five[3], five[4]);
        }
        return last;
    }

    static int house(WheelBook x, String text) {
        feed(x, text);
        return x.house(text.length());
    }

    static int wheel(WheelBook x, int book, int wheel, String text) {
        feed(x, text);
        return x.wheel(book, wheel, text.length());
    }

    static WheelBook withHouse(String text) {
        WheelBook x = new WheelBook();
        Check.is("house of " + text, house(x, text), 0);
        return x;
    }

    static void told(WheelBook x, int book, int wheel, String text) {
        Check.is("wheel of " + text, wheel(x, book, wheel, text), 0);
    }

    static WheelBook withWheel(String text) {
        WheelBook x = new WheelBook();
        told(x, 0, 0, text);
        return x;
    }

    /** Looks at what a new object answers of the text as a HOUSE: the FAULT (0 of none) and its place. */
    static void houseFault(String text, int fault, int place) {
        houseFault(new WheelBook(), text, fault, place);
    }

    static void houseFault(WheelBook x, String text, int fault, int place) {
        Check.is("3: house " + text, house(x, text), fault);
        Check.is("5: fault of " + text, x.fault(), place);
        Check.is("3: the tape is empty behind " + text, x.count(4), 0);
    }

    /** The same of the text as a WHEEL. */
    static void wheelFault(String text, int fault, int place) {
        WheelBook x = new WheelBook();
        Check.is("4: wheel " + text, wheel(x, 3, 7, text), fault);
        Check.is("5: fault of " + text, x.fault(), place);
        Check.is("4: the tape is empty behind " + text, x.count(4), 0);
    }
}
