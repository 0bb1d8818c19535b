/** Texts told to a WheelBook by way of its tape. */
final class Tell {
    static final String LEVEL = "climate 0 300 300 300 300 300 300 300 300 300 300 300 300;";
    static final String STEEP = "climate 1 200 240 280 320 360 400 400 360 320 280 240 200;";

    private Tell() {
    }

    /** Feeds the text, filled up with blanks to whole twenties. */
    static int feed(WheelBook x, String text) {
        int last = WheelBook.NONE;
        for (int at = 0; at < text.length(); at += 20) {
            int[] five = new int[5];
            for (int i = 0; i < 20; i++) {
                int b = at + i < text.length() ? text.charAt(at + i) : ' ';
                five[i / 4] = five[i / 4] << 8 | b & 255;
            }
            last = x.feed(five[0], five[1], five[2], five[3], five[4]);
        }
        return last;
    }

    static int house(WheelBook x, String text) {
        feed(x, text);
        return x.house(text.length());
    }

    static int wheel(WheelBook x, int book, int wheel, String text) {
        feed(x, text);
        return x.wheel(book, wheel, text.length());
    }

    static WheelBook withHouse(String text) {
        WheelBook x = new WheelBook();
        Check.is("house of " + text, house(x, text), 0);
        return x;
    }

    static void told(WheelBook x, int book, int wheel, String text) {
        Check.is("wheel of " + text, wheel(x, book, wheel, text), 0);
    }
}
