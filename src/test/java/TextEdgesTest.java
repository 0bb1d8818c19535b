/** Each sentence of part 2 (TEXTS, TOKENS, FAULTS) and of promises 1 to 6 and 8 that names a boundary. */
public final class TextEdgesTest {
    private static final String LEAST = " 1 1 1 1 1 1 1 1 1 1 1 3589;";
    private static final String[] NAMES = {"sun", "moon", "mercury", "venus", "mars", "jupiter", "saturn"};

    public static void main(String[] args) {
        longestText();
        words();
        numbers();
        everyByte();
        blanks();
        linesOfAnyNumber();
        entriesOfAnyNumber();
        eachTokenOfLines();
        eachTokenOfEntries();
        names();
        tables();
        firstNumberOfClimate();
        signsAndDegrees();
        whichHouse();
        dates();
        firstFault();
        firstByte();
        leastOfOneToken();
        endsTooSoon();
        eightDigits();
        twelfthRising();
        risingOneOrMore();
        eighthClimate();
        thirtyFirstHand();
        handNumbers();
        toldAlready();
        housesAdd();
        booksAndWheels();
        nothingToldAtFirst();
        entryNumbers();
        entry();
        feed();
        house();
        faultyHouse();
        houseRefused();
        wheel();
        wheelRefused();
        fault();
        count();
        Check.end("TextEdgesTest");
    }

    // ---- TOKENS

    private static String filled(String text, int length) {
        return " ".repeat(length - text.length()) + text;
    }

    private static void longestText() {
        Check.sentence("TEXTS of at most 600 bytes.");
        WheelBook x = new WheelBook();
        Tell.houseFault(x, filled("hand 1 for 2;", 600), 0, -1);
        Check.is("6: it was told", x.count(1), 1);
        Tell.houseFault(x, filled("hand 1 for 2", 600), 1, 600);
        Tell.houseFault(x, filled("hand 1 for", 600), 1, 600);
        Tell.houseFault(x, filled("hand 1 for 30;", 600), 2, 597);
        Check.is("6: no more was told", x.count(1), 1);
        Tell.feed(x, filled("hand 3 for 4;", 600));
        Check.is("3: its last byte is left out", x.house(599), 1);
        Check.is("5: fault", x.fault(), 599);
    }

    private static void words() {
        Check.sentence("words (a .. z, the longest row)");
        Tell.houseFault("handa 1 for 2;", 1, 0);
        Tell.houseFault("handz 1 for 2;", 1, 0);
        Tell.houseFault("hand` 1 for 2;", 1, 4);
        Tell.houseFault("hand{ 1 for 2;", 1, 4);
        Tell.houseFault("handA 1 for 2;", 1, 4);
        Tell.houseFault("handZ 1 for 2;", 1, 4);
        Tell.houseFault("hand 1 fora 2;", 1, 7);
        Tell.houseFault("hand 1 forhand 2;", 1, 7);
        Tell.houseFault("hand 1 fo r 2;", 1, 7);
        Tell.houseFault("land 1 for 2;", 1, 0);
        Tell.houseFault("hank 1 for 2;", 1, 0);
        Tell.houseFault("hand 1 nor 2;", 1, 7);
        Tell.houseFault("hand1for2;", 0, -1);
        Tell.wheelFault("suns 0 0;", 1, 0);
        Tell.wheelFault("su 0 0;", 1, 0);
        Tell.wheelFault("sun0 1;moon0 1;", 0, -1);
        Tell.wheelFault("sun01;", 1, 5);
        Tell.wheelFault("sun0x1;", 1, 4);
    }

    private static void numbers() {
        Check.sentence("NUMBERS (1 to 7 digits)");
        Tell.houseFault("hand 9 for 0;", 0, -1);
        Tell.houseFault("hand 0000029 for 0000000;", 0, -1);
        Tell.houseFault("hand 00000029 for 0;", 2, 5);
        Tell.houseFault("hand 9 for 00000000;", 2, 11);
        Tell.houseFault("hand 1/ for 2;", 1, 6);
        Tell.houseFault("hand 1: for 2;", 1, 6);
        Tell.houseFault("hand /1 for 2;", 1, 5);
        Tell.houseFault("hand :1 for 2;", 1, 5);
        Tell.houseFault("hand 1 2 for 2;", 1, 7);
        Tell.houseFault("set 0 sun at 0021599 goes 2000000;", 0, -1);
    }

    private static boolean isLetter(int b) {
        return b >= 'a' && b <= 'z';
    }

    /** One byte of each kind stands behind a NUMBER where ';' is due. */
    private static void everyByte() {
        Check.sentence("the sign ; and blanks (32, 10) between them, which count for nothing");
        for (int b = 0; b < 256; b++) {
            String text = "hand 1 for 2" + (char) b + ";";
            boolean fine = b == 32 || b == 10 || b >= '0' && b <= '9';
            int place = fine ? -1 : b == ';' ? 13 : 12;
            Tell.houseFault(text, fine ? 0 : 1, place);
        }
        for (int b = 0; b < 256; b++) {
            boolean fine = b == 32 || b == 10;
            Tell.wheelFault((char) b + "sun 0 0;", fine ? 0 : 1, fine ? -1 : 0);
            boolean digit = b >= '0' && b <= '9';
            int place = fine || digit ? -1 : isLetter(b) ? 0 : 3;
            Tell.wheelFault("sun" + (char) b + " 0 0;", fine ? 0 : 1, digit ? 7 : place);
        }
    }

    private static void blanks() {
        Check.sentence("blanks (32, 10) between them, which count for nothing");
        Tell.houseFault("\n\n hand\n1 \n for\n2\n;\n ", 0, -1);
        Tell.houseFault(" \n ", 0, -1);
        Tell.houseFault("hand 1 for 2;hand 3 for 4;", 0, -1);
        Tell.houseFault("hand 1 for 2 9;", 1, 13);
        Tell.houseFault("ha nd 1 for 2;", 1, 0);
    }

    // ---- LINES and ENTRIES

    private static void linesOfAnyNumber() {
        Check.sentence("HOUSE: LINE*.");
        Tell.houseFault("", 0, -1);
        WheelBook x = new WheelBook();
        Tell.houseFault(x, "hand 1 for 2;", 0, -1);
        Check.is("6: one", x.count(1), 1);
        Tell.houseFault(x, "hand 1 for 3;" + Tell.LEVEL + "set 1 moon at 7 goes 0;hand 1 for 4;" + Tell.STEEP, 0, -1);
        Check.is("6: three HANDS", x.count(1), 3);
        Check.is("6: two CLIMATES", x.count(0), 2);
        Check.is("7: a table", x.place(1, 1, 0), 7);
        Tell.houseFault(";", 1, 0);
        Tell.houseFault("hand 1 for 2;;", 1, 13);
    }

    private static void entriesOfAnyNumber() {
        Check.sentence("WHEEL: ENTRY*.");
        Tell.wheelFault("", 0, -1);
        Tell.wheelFault("sun 0 0;", 0, -1);
        Tell.wheelFault("sun 0 0;moon 0 0;", 0, -1);
        StringBuilder all = new StringBuilder();
        for (int entry = 0; entry < 22; entry++) {
            all.append(entryText(entry)).append(";");
        }
        Tell.wheelFault(all.toString(), 0, -1);
        Tell.wheelFault(all + ";", 1, all.length());
        Tell.wheelFault("sun 0 0;;", 1, 8);
    }

    /** Of the row of TOKENS each is left out with all behind it, and each is another one in its turn. */
    private static void eachToken(boolean isHouse, String... tokens) {
        StringBuilder ahead = new StringBuilder();
        for (int i = 0; i < tokens.length; i++) {
            StringBuilder behind = new StringBuilder();
            for (int j = i + 1; j < tokens.length; j++) {
                behind.append(' ').append(tokens[j]);
            }
            int at = ahead.length();
            String[] others = {"x", ";", "1", "\u0000", "12345678", "rise"};
            for (String other : others) {
                boolean sameKind = Character.isDigit(other.charAt(0)) == Character.isDigit(tokens[i].charAt(0));
                boolean canStand = sameKind && Character.isDigit(other.charAt(0)) || other.equals(tokens[i]);
                boolean isSwing = tokens[i].equals("swing") && other.equals(";");
                boolean isEntry = !isHouse && i == 0 && other.equals("rise");
                if (!canStand && !isSwing && !isEntry) {
                    look(isHouse, ahead + other + behind, 1, at);
                }
            }
            if (i > 0) {
                look(isHouse, ahead.toString(), 1, at);
                look(isHouse, ahead.toString().trim(), 1, at - 1);
            }
            ahead.append(tokens[i]).append(' ');
        }
        look(isHouse, ahead.toString(), 0, -1);
    }

    private static void look(boolean isHouse, String text, int fault, int place) {
        if (isHouse) {
            Tell.houseFault(text, fault, place);
        } else {
            Tell.wheelFault(text, fault, place);
        }
    }

    private static void eachTokenOfLines() {
        Check.sentence("LINE: ('set' NUMBER NAME 'at' NUMBER 'goes' NUMBER ['swing' NUMBER 'in' NUMBER] | "
                + "'climate' NUMBER NUMBER .. (twelve) | 'hand' NUMBER 'for' NUMBER) ';'.");
        Tell.houseFault("set 0 sun at 1 goes 2;set 0 sun at 1 goes 2 swing 3 in 4;", 0, -1);
        Tell.houseFault("set 0 sun at 1 goes 2 swing 3;", 1, 29);
        Tell.houseFault("set 0 sun at 1 goes 2 in 4;", 1, 22);
        Tell.houseFault("set 0 sun goes 2 at 1;", 1, 10);
        Tell.houseFault("hand 1 for 2 for 3;", 1, 13);
        Check.sentence("1 a TOKEN that can't stand there, or is none (the text's length where it ends too soon)");
        eachToken(true, "set", "0", "sun", "at", "5", "goes", "6", "swing", "7", "in", "8", ";");
        eachToken(true, "set", "3", "saturn", "at", "5", "goes", "6", ";");
        eachToken(true, "climate", "0", "1", "2", "3", "4", "5", "6", "7", "8", "9", "10", "11", "3534", ";");
        eachToken(true, "hand", "1", "for", "2", ";");
    }

    private static void eachTokenOfEntries() {
        Check.sentence("ENTRY: ((NAME | 'rise' | 'lot') NUMBER NUMBER | 'house' NUMBER NUMBER NUMBER | 'date' NUMBER NUMBER) ';'");
        for (String name : NAMES) {
            eachToken(false, name, "11", "29", ";");
        }
        eachToken(false, "rise", "0", "0", ";");
        eachToken(false, "lot", "3", "4", ";");
        eachToken(false, "house", "12", "3", "4", ";");
        eachToken(false, "date", "3", "4", ";");
        Tell.wheelFault("house 1 2;", 1, 9);
        Tell.wheelFault("lot 1 2 3;", 1, 8);
        Tell.wheelFault("date 1 2 3;", 1, 9);
    }

    private static void names() {
        Check.sentence("NAME: a word, 'sun' to 'saturn'.");
        WheelBook x = new WheelBook();
        for (int wanderer = 0; wanderer < 7; wanderer++) {
            Tell.houseFault(x, "set 2 " + NAMES[wanderer] + " at 1" + wanderer + " goes 0;", 0, -1);
        }
        for (int wanderer = 0; wanderer < 7; wanderer++) {
            Check.is("7: " + NAMES[wanderer], x.place(2, wanderer, 0), 10 + wanderer);
        }
        for (String other : new String[] {"rise", "lot", "house", "date", "set", "at", "earth", "s", "0"}) {
            Tell.houseFault("set 0 " + other + " at 0 goes 0;", 1, 6);
        }
        for (String other : new String[] {"set", "climate", "hand", "at", "for", "s", "0"}) {
            Tell.wheelFault(other + " 0 0;", 1, 0);
        }
    }

    private static void tables() {
        Check.sentence("'at' 0 to 21599, 'goes' 0 to 2,000,000, 'swing' 0 to 10,800, 'in' 2 to 1,000,000");
        Tell.houseFault("set 0 sun at 0 goes 0 swing 0 in 2;", 0, -1);
        Tell.houseFault("set 3 sun at 21599 goes 2000000 swing 10800 in 1000000;", 0, -1);
        Tell.houseFault("set 4 sun at 0 goes 0;", 2, 4);
        Tell.houseFault("set 0 sun at 21600 goes 0;", 2, 13);
        Tell.houseFault("set 0 sun at 0 goes 2000001;", 2, 20);
        Tell.houseFault("set 0 sun at 0 goes 0 swing 10801 in 2;", 2, 28);
        Tell.houseFault("set 0 sun at 0 goes 0 swing 0 in 0;", 2, 33);
        Tell.houseFault("set 0 sun at 0 goes 0 swing 0 in 1;", 2, 33);
        Tell.houseFault("set 0 sun at 0 goes 0 swing 0 in 1000001;", 2, 33);
        Tell.houseFault("set -1 sun at 0 goes 0;", 1, 4);
    }

    private static void firstNumberOfClimate() {
        Check.sentence("of 'climate' the first number must be how many there are, told behind it the twelve");
        WheelBook x = new WheelBook();
        for (int many = 0; many < 7; many++) {
            if (many > 0) {
                Tell.houseFault(x, "climate " + (many - 1) + LEAST, 2, 8);
            }
            Tell.houseFault(x, "climate " + (many + 1) + LEAST, 2, 8);
            Tell.houseFault(x, "climate " + many + LEAST, 0, -1);
            Check.is("6: CLIMATES", x.count(0), many + 1);
        }
        Tell.houseFault("climate 0" + LEAST + "climate 1" + LEAST, 0, -1);
        Tell.houseFault("climate 0" + LEAST + "climate 0" + LEAST, 2, 45);
        Tell.houseFault("climate 0" + LEAST + "climate 2" + LEAST, 2, 45);
        Tell.houseFault("climate 0 1 1 1 1 1 1 1 1 1 1 3590;", 1, 34);
        Tell.houseFault("climate 0 1 1 1 1 1 1 1 1 1 1 1 3589 1;", 1, 37);
    }

    private static void signsAndDegrees() {
        Check.sentence("its SIGN (0 to 11) and the degree in it (0 to 29)");
        for (String name : new String[] {"sun", "saturn", "rise", "lot", "house 1", "house 12"}) {
            int at = name.length() + 1;
            Tell.wheelFault(name + " 0 0;", 0, -1);
            Tell.wheelFault(name + " 11 29;", 0, -1);
            Tell.wheelFault(name + " 12 0;", 2, at);
            Tell.wheelFault(name + " 0 30;", 2, at + 2);
            Tell.wheelFault(name + " 12 30;", 2, at);
        }
    }

    private static void whichHouse() {
        Check.sentence("ahead of these of 'house' which (1 to 12)");
        Tell.wheelFault("house 0 0 0;", 2, 6);
        Tell.wheelFault("house 1 0 0;", 0, -1);
        Tell.wheelFault("house 12 0 0;", 0, -1);
        Tell.wheelFault("house 13 0 0;", 2, 6);
    }

    private static void dates() {
        Check.sentence("of 'date' a MONTH (0 to 12) and a day in it (0 to 29; of MONTH 12: 0 to 4)");
        Tell.wheelFault("date 0 0;", 0, -1);
        Tell.wheelFault("date 0 29;", 0, -1);
        Tell.wheelFault("date 0 30;", 2, 7);
        Tell.wheelFault("date 11 29;", 0, -1);
        Tell.wheelFault("date 11 30;", 2, 8);
        Tell.wheelFault("date 12 0;", 0, -1);
        Tell.wheelFault("date 12 4;", 0, -1);
        Tell.wheelFault("date 12 5;", 2, 8);
        Tell.wheelFault("date 13 0;", 2, 5);
    }

    // ---- FAULTS

    private static void firstFault() {
        Check.sentence("FAULTS, the first along the text");
        Tell.houseFault("hand 30 for x;", 2, 5);
        Tell.houseFault("hand x for 30;", 1, 5);
        Tell.houseFault("hand 1 for 2;hand 30 for 1;x", 2, 18);
        Tell.houseFault("hand 1 for 2;x;hand 30 for 1;", 1, 13);
        Tell.houseFault("set 4 rise at 21600;", 2, 4);
        Tell.wheelFault("sun 0 0;sun 12 30;x", 3, 8);
        Tell.wheelFault("sun 12 0;sun 0 0;", 2, 4);
        Tell.wheelFault("sun 0 0;moon 0 30;sun 0 0;", 2, 15);
        Tell.wheelFault("sun 0 0;moon 0 x;sun 0 0;", 1, 15);
    }

    private static void firstByte() {
        Check.sentence("at a TOKEN's first byte");
        Tell.houseFault("  hand   1234567   for 2;", 2, 9);
        Tell.houseFault("hand 1 \n  forty 2;", 1, 10);
        Tell.houseFault("hand 1 for 123456789;", 2, 11);
        Tell.wheelFault("\nhouse  13  0 0;", 2, 8);
        Tell.wheelFault("saturn 0 0;  saturn 0 0;", 3, 13);
    }

    private static void leastOfOneToken() {
        Check.sentence("of one TOKEN the least");
        // no NUMBER can stand there, and it has 8 digits
        Tell.houseFault("hand 1 12345678 2;", 1, 7);
        Tell.houseFault("12345678", 1, 0);
        Tell.wheelFault("sun 0 0 12345678;", 1, 8);
        // it has 8 digits, and that house was told
        Tell.wheelFault("house 1 0 0;house 00000001 0 0;", 2, 18);
        // it was told, but can't stand there
        Tell.wheelFault("sun 0 0;moon 0 sun", 1, 15);
        Tell.wheelFault("sun 0 0;house sun 0 0;", 1, 14);
        WheelBook x = new WheelBook();
        Tell.houseFault(x, thirtyHands(), 0, -1);
        Tell.houseFault(x, "set hand", 1, 4);
        Tell.houseFault(x, climates(7), 0, -1);
        Tell.houseFault(x, "set climate", 1, 4);
    }

    private static void endsTooSoon() {
        Check.sentence("(the text's length where it ends too soon)");
        Tell.houseFault("hand 1 for 2", 1, 12);
        Tell.houseFault("hand 1 for 2 \n ", 1, 15);
        Tell.houseFault("h", 1, 0);
        Tell.houseFault("set", 1, 3);
        Tell.houseFault("set 0 sun at 0 goes 0 swing", 1, 27);
        Tell.houseFault("set 0 sun at 0 goes 0", 1, 21);
        Tell.wheelFault("sun", 1, 3);
        Tell.wheelFault("house", 1, 5);
        Tell.wheelFault("sun 0 0;moon 0  ", 1, 16);
        WheelBook x = new WheelBook();
        Tell.feed(x, "hand 1 for 2;");
        Check.is("3: the text is what n says, not the tape", x.house(6), 1);
        Check.is("5: fault", x.fault(), 6);
        Tell.feed(x, "hand 12 for 2;");
        Check.is("3: a TOKEN cut short", x.house(2), 1);
        Check.is("5: fault", x.fault(), 0);
        Tell.feed(x, "hand 12 for 3;hand 4 for 5;");
        Check.is("3: what is behind n counts for nothing", x.house(14), 0);
        Check.is("6: one HAND", x.count(1), 1);
    }

    private static void eightDigits() {
        Check.sentence("2 one that can, but is too much: a NUMBER of 8 digits or more, or not as told");
        Tell.houseFault("hand 0000001 for 2;", 0, -1);
        Tell.houseFault("hand 00000001 for 2;", 2, 5);
        Tell.houseFault("hand 000000000000000001 for 2;", 2, 5);
        Tell.houseFault("hand 99999999999999999999 for 2;", 2, 5);
        // 2 to the 32nd, and 1
        Tell.houseFault("hand 4294967297 for 2;", 2, 5);
        Tell.houseFault("set 00000000 sun at 0 goes 0;", 2, 4);
        Tell.houseFault("set 0 sun at 00000000 goes 0;", 2, 13);
        Tell.houseFault("set 0 sun at 0 goes 02000000;", 2, 20);
        Tell.houseFault("set 0 sun at 0 goes 2000000;", 0, -1);
        Tell.houseFault("set 0 sun at 0 goes 0 swing 00010800 in 2;", 2, 28);
        Tell.houseFault("set 0 sun at 0 goes 0 swing 0010800 in 2;", 0, -1);
        Tell.houseFault("set 0 sun at 0 goes 0 swing 0 in 00000002;", 2, 33);
        Tell.houseFault("climate 00000000 1 1 1 1 1 1 1 1 1 1 1 3589;", 2, 8);
        Tell.houseFault("climate 0 00000001 1 1 1 1 1 1 1 1 1 1 3589;", 2, 10);
        Tell.houseFault("climate 0 1 1 1 1 1 1 1 1 1 1 1 00003589;", 2, 32);
        Tell.houseFault("climate 0 1 1 1 1 1 1 1 1 1 1 1 0003589;", 0, -1);
        Tell.wheelFault("sun 00000000 0;", 2, 4);
        Tell.wheelFault("sun 0000011 0000029;", 0, -1);
        Tell.wheelFault("sun 0 00000000;", 2, 6);
        Tell.wheelFault("house 00000001 0 0;", 2, 6);
        Tell.wheelFault("date 00000000 0;", 2, 5);
        Tell.wheelFault("date 0 00000000;", 2, 7);
    }

    private static void twelfthRising() {
        Check.sentence("a 12th RISING number by which they aren't 3600");
        String eleven = "climate 0 1 1 1 1 1 1 1 1 1 1 1 ";
        Tell.houseFault(eleven + "3588;", 2, 32);
        Tell.houseFault(eleven + "3589;", 0, -1);
        Tell.houseFault(eleven + "3590;", 2, 32);
        Tell.houseFault(eleven + "1;", 2, 32);
        Tell.houseFault(eleven + "x", 1, 32);
        // those ahead of it may be as many as they like
        Tell.houseFault("climate 0 3600 1 1 1 1 1 1 1 1 1 1 1;", 2, 35);
        Tell.houseFault("climate 0 9999999 1 1 1 1 1 1 1 1 1 1 x;", 1, 38);
        String most = "climate 0" + " 9999999".repeat(11);
        Tell.houseFault(most + " 9999999;", 2, 98);
        Tell.houseFault(most + " ;", 1, 98);
        Tell.houseFault("climate 0 3589 1 1 1 1 1 1 1 1 1 1 1;", 0, -1);
        Tell.houseFault("climate 0 3590 1 1 1 1 1 1 1 1 1 1 1;", 2, 35);
    }

    private static void risingOneOrMore() {
        Check.sentence("each has 12 RISING numbers, of each SIGN from 0 on, all together 3600, each 1 or more");
        Tell.houseFault("climate 0 0 1 1 1 1 1 1 1 1 1 1 3590;", 2, 10);
        Tell.houseFault("climate 0 1 1 1 1 1 0 1 1 1 1 1 3590;", 2, 20);
        Tell.houseFault("climate 0 1 1 1 1 1 1 1 1 1 1 0 3590;", 2, 30);
        Tell.houseFault("climate 0 3590 1 1 1 1 1 1 1 1 1 1 0;", 2, 35);
        WheelBook x = Tell.withHouse("climate 0 11 22 33 44 55 66 77 88 99 110 121 2874;");
        int ahead = 0;
        for (int sign = 0; sign < 12; sign++) {
            Check.is("14: SIGN " + sign, x.climb(0, 1800 * sign), 1800 * ahead);
            ahead += 11 * (sign + 1);
            Check.is("14: SIGN " + sign + " at its end", x.climb(0, 1800 * sign + 1799),
                    sign == 11 ? 6480000 - 2874 : 1800 * ahead - 11 * (sign + 1));
        }
    }

    private static String climates(int many) {
        StringBuilder text = new StringBuilder();
        for (int climate = 0; climate < many; climate++) {
            text.append("climate ").append(climate).append(LEAST);
        }
        return text.toString();
    }

    private static void eighthClimate() {
        Check.sentence("the first TOKEN of the 8th 'climate'");
        WheelBook x = new WheelBook();
        Tell.houseFault(x, climates(8), 2, 7 * 37);
        Check.is("6: none of them came", x.count(0), 0);
        Tell.houseFault(x, climates(7), 0, -1);
        Check.is("6: seven", x.count(0), 7);
        Tell.houseFault(x, "climate", 2, 0);
        Tell.houseFault(x, "climate 7" + LEAST, 2, 0);
        Tell.houseFault(x, "climate 6" + LEAST, 2, 0);
        Tell.houseFault(x, " hand 1 for 2;\nclimate x", 2, 15);
        Check.is("6: seven still", x.count(0), 7);
        Check.is("6: no HAND", x.count(1), 0);
    }

    private static String thirtyHands() {
        StringBuilder text = new StringBuilder();
        for (int i = 0; i < 30; i++) {
            text.append("hand ").append(i).append(" for ").append(29 - i).append(";");
        }
        return text.toString();
    }

    private static void thirtyFirstHand() {
        Check.sentence("the first TOKEN of the 8th 'climate', of the 31st 'hand'");
        String thirty = thirtyHands();
        WheelBook x = new WheelBook();
        Tell.houseFault(x, thirty + "hand 1 for 2;", 2, thirty.length());
        Check.is("6: none of them came", x.count(1), 0);
        Tell.houseFault(x, "hand 1 for 2;", 0, -1);
        Tell.houseFault(x, thirty, 2, thirty.lastIndexOf("hand"));
        Check.is("6: one", x.count(1), 1);
        Tell.houseFault(x, thirty.substring(0, thirty.lastIndexOf("hand")), 0, -1);
        Check.is("6: thirty", x.count(1), 30);
        Tell.houseFault(x, "hand", 2, 0);
        Tell.houseFault(x, "hand 1 for 2;", 2, 0);
        Tell.houseFault(x, Tell.LEVEL + "hand 30", 2, 58);
        Check.is("6: no CLIMATE", x.count(0), 0);
        Check.is("6: thirty still", x.count(1), 30);
    }

    private static void handNumbers() {
        Check.sentence("HANDS: pairs of numbers (0 to 29): one stood there, the other was read (at most 30 pairs).");
        Tell.houseFault("hand 0 for 29;", 0, -1);
        Tell.houseFault("hand 29 for 0;", 0, -1);
        Tell.houseFault("hand 30 for 0;", 2, 5);
        Tell.houseFault("hand 0 for 30;", 2, 11);
        Check.sentence("'hand' a 'for' b: b stood there, a was read.");
        WheelBook x = Tell.withHouse("hand 29 for 0;");
        Tell.told(x, 0, 0, "sun 0 29;");
        Check.is("9: 29 was read for 0", x.cost(0, 0, 0, 0), 1);
        Tell.house(x, "set 0 sun at 1740 goes 0;");
        Tell.told(x, 0, 0, "sun 0 0;");
        Check.is("9: 0 was not read for 29", x.cost(0, 0, 0, 0), 9);
        Tell.house(x, "hand 0 for 29;");
        Check.is("9: now it was", x.cost(0, 0, 0, 0), 1);
    }

    private static String entryText(int entry) {
        return entryName(entry) + " 0 0";
    }

    private static String entryName(int entry) {
        if (entry < 7) {
            return NAMES[entry];
        }
        return entry == 7 ? "rise" : entry == 8 ? "lot" : entry == 21 ? "date" : "house " + (entry - 8);
    }

    private static void toldAlready() {
        Check.sentence("3 an ENTRY that was told already (at its first TOKEN; of 'house' at which)");
        for (int entry = 0; entry < 22; entry++) {
            String text = "lot 3 3;" + entryText(entry) + ";";
            if (entry == 8) {
                text = "moon 3 3;" + entryText(entry) + ";";
            }
            boolean isHouse = entry > 8 && entry < 21;
            Tell.wheelFault(text + " " + entryName(entry), 3, text.length() + (isHouse ? 7 : 1));
            Tell.wheelFault(text + entryName(entry) + " 1 1;", 3, text.length() + (isHouse ? 6 : 0));
        }
        Tell.wheelFault("house 1 0 0;house 11 0 0;house 12 0 0;house 2 0 0;", 0, -1);
        Tell.wheelFault("house 1 0 0;house 1 12", 3, 18);
        Tell.wheelFault("house 1 0 0;house 0000001 0 0;", 3, 18);
        WheelBook x = Tell.withWheel("sun 1 1;");
        Tell.told(x, 0, 0, "sun 2 2;");
        Check.is("8: of one text alone", x.entry(0, 0, 0), 62);
        Tell.told(x, 0, 1, "sun 3 3;");
        Check.is("4: a text with a FAULT tells nothing", Tell.wheel(x, 0, 2, "sun 4 4;x"), 1);
        Tell.told(x, 0, 2, "sun 5 5;");
        Check.is("8: told anew", x.entry(0, 2, 0), 155);
    }

    // ---- what is told

    private static void housesAdd() {
        Check.sentence("A HOUSE adds to what is told (of a SET's WANDERER the last LINE counts).");
        WheelBook x = Tell.withHouse("set 0 sun at 1 goes 0;set 0 sun at 2 goes 0;hand 1 for 2;" + Tell.LEVEL);
        Check.is("7: the last of two", x.place(0, 0, 0), 2);
        Tell.house(x, "set 0 sun at 3 goes 1000 swing 60 in 2;set 1 sun at 5 goes 0;hand 3 for 4;" + Tell.STEEP);
        Check.is("7: the last of three", x.place(0, 0, 0), 63);
        Check.is("7: with its swing", x.place(0, 0, 1), 21600 + 3 + 1 - 60);
        Check.is("7: another SET", x.place(1, 0, 0), 5);
        Check.is("7: another WANDERER", x.place(0, 1, 0), 0);
        Check.is("6: HANDS of both", x.count(1), 2);
        Check.is("6: CLIMATES of both", x.count(0), 2);
        Check.is("14: the first stays", x.climb(0, 1), 300);
        Check.is("14: the second", x.climb(1, 1), 200);
        Tell.house(x, "set 0 sun at 4 goes 0;");
        Check.is("7: the last LINE has no swing", x.place(0, 0, 0), 4);
        Check.is("7: the last LINE has no swing", x.place(0, 0, 1), 4);
        Tell.house(x, "");
        Check.is("7: an empty HOUSE adds nothing", x.place(0, 0, 0), 4);
        Check.is("6: nor takes away", x.count(1), 2);
    }

    private static void booksAndWheels() {
        Check.sentence("BOOKS 0 to 5 have WHEELS 0 to 19 each");
        WheelBook x = new WheelBook();
        for (int number = 0; number < 120; number++) {
            Tell.wheel(x, number / 20, number % 20, "lot " + number / 30 + " " + number % 30 + ";");
        }
        Check.is("6: all tell something", x.count(2), 120);
        for (int number = 0; number < 120; number++) {
            Check.is("8: WHEEL " + number, x.entry(number / 20, number % 20, 8), number);
        }
        Check.missing("4: BOOK 6", () -> x.wheel(6, 0, 0));
        Check.missing("4: BOOK -1", () -> x.wheel(-1, 19, 0));
        Check.missing("4: WHEEL 20", () -> x.wheel(0, 20, 0));
        Check.missing("4: WHEEL -1", () -> x.wheel(1, -1, 0));
        Check.is("6: they tell it still", x.count(2), 120);
    }

    private static void nothingToldAtFirst() {
        Check.sentence("(nothing told at first)");
        for (int book = 0; book < 6; book++) {
            WheelBook x = new WheelBook();
            for (int i = 0; i < 20 * 22; i++) {
                Check.is("8: BOOK " + book, x.entry(book, i / 22, i % 22), -1);
            }
            Check.is("6: no WHEELS", x.count(2), 0);
        }
    }

    private static void entryNumbers() {
        Check.sentence("0 to 6 WANDERERS, 7 RISE, 8 LOT, 9 to 20 houses 1 to 12, 21 the DATE (30 by the MONTH and the day: 0 to 364)");
        for (int entry = 0; entry < 22; entry++) {
            WheelBook x = Tell.withWheel(entryName(entry) + " 1 2;");
            for (int other = 0; other < 22; other++) {
                Check.is("8: " + entryName(entry) + " as " + other, x.entry(0, 0, other), other == entry ? 32 : -1);
            }
            Check.missing("8: 22", () -> x.entry(0, 0, 22));
            Check.missing("8: -1", () -> x.entry(0, 0, -1));
        }
        Check.is("8: DATE 0", Tell.withWheel("date 0 0;").entry(0, 0, 21), 0);
        Check.is("8: DATE 29", Tell.withWheel("date 0 29;").entry(0, 0, 21), 29);
        Check.is("8: DATE 30", Tell.withWheel("date 1 0;").entry(0, 0, 21), 30);
        Check.is("8: DATE 359", Tell.withWheel("date 11 29;").entry(0, 0, 21), 359);
        Check.is("8: DATE 360", Tell.withWheel("date 12 0;").entry(0, 0, 21), 360);
        Check.is("8: DATE 364", Tell.withWheel("date 12 4;").entry(0, 0, 21), 364);
        Check.is("8: DEGREE 0", Tell.withWheel("lot 0 0;").entry(0, 0, 8), 0);
        Check.is("8: DEGREE 359", Tell.withWheel("lot 11 29;").entry(0, 0, 8), 359);
    }

    private static void entry() {
        Check.sentence("A DEGREE of an ENTRY (0 to 359; of 21 the DATE); NONE: it isn't told. NoSuchElementException: also no such ENTRY.");
        WheelBook x = new WheelBook();
        Tell.told(x, 5, 19, "sun 0 0;saturn 11 29;house 1 11 29;house 12 0 0;date 12 4;");
        Check.is("8: the least", x.entry(5, 19, 0), 0);
        Check.is("8: the greatest", x.entry(5, 19, 6), 359);
        Check.is("8: house 1", x.entry(5, 19, 9), 359);
        Check.is("8: house 12", x.entry(5, 19, 20), 0);
        Check.is("8: the DATE", x.entry(5, 19, 21), 364);
        Check.is("8: not told", x.entry(5, 19, 1), -1);
        Check.missing("8: 22", () -> x.entry(5, 19, 22));
        Check.missing("8: -1", () -> x.entry(5, 19, -1));
        Check.missing("8: BOOK 6", () -> x.entry(6, 19, 0));
        Check.missing("8: BOOK -1", () -> x.entry(-1, 19, 0));
        Check.missing("8: WHEEL 20", () -> x.entry(5, 20, 0));
        Check.missing("8: WHEEL -1", () -> x.entry(5, -1, 0));
    }

    // ---- promises 2 to 6

    private static void feed() {
        Check.sentence("Twenty bytes come behind the tape, of each number the highest first: how many it has; "
                + "NONE, and none come, if it would have more than 600.");
        WheelBook x = new WheelBook();
        // "hand", " 1 f", "or 2", ";han", "d 3 " and "for ", "4;", and bytes of 255
        Check.is("2: feed", x.feed(0x68616e64, 0x20312066, 0x6f722032, 0x3b68616e, 0x64203320), 20);
        Check.is("2: behind it", x.feed(0x666f7220, 0x343bffff, -1, Integer.MIN_VALUE, Integer.MAX_VALUE), 40);
        Check.is("3: in that order", x.house(26), 0);
        Check.is("6: two HANDS", x.count(1), 2);
        for (int i = 1; i <= 29; i++) {
            Check.is("2: feed", x.feed(0x20202020, 0x20202020, 0x20202020, 0x20202020, 0x20202020), 20 * i);
        }
        Check.is("2: 600", x.feed(0x20202020, 0x20202020, 0x68616e64, 0x20312066, 0x6f722033), 600);
        Check.is("2: more than 600", x.feed(0x3b202020, 0, 0, 0, 0), -1);
        Check.is("6: none came", x.count(4), 600);
        Check.is("2: again", x.feed(0x3b202020, 0, 0, 0, 0), -1);
        Check.is("3: what was there is there still", x.house(600), 1);
        Check.is("5: it ends too soon", x.fault(), 600);
        Check.is("2: the tape begins anew", x.feed(0, 0, 0, 0, 0), 20);
    }

    private static void house() {
        Check.sentence("The tape's first n bytes (it is empty then) are a HOUSE: 0, or the FAULT (all stays).");
        WheelBook x = new WheelBook();
        Tell.feed(x, "hand 1 for 2;xxxxxxxxxx");
        Check.is("3: the first 13", x.house(13), 0);
        Check.is("6: empty then, of all 40", x.count(4), 0);
        Check.illegal("3: nothing is left", () -> x.house(1));
        Check.is("3: of an empty tape", x.house(0), 0);
        Tell.feed(x, "xxxx");
        Check.is("3: 0 bytes of 20", x.house(0), 0);
        Check.is("6: empty then", x.count(4), 0);
        Tell.feed(x, "xxxx");
        Check.is("3: a FAULT", x.house(20), 1);
        Check.is("6: empty then too", x.count(4), 0);
        Tell.feed(x, "hand 3 for 4;");
        Check.is("3: it begins anew", x.house(20), 0);
        Check.is("6: HANDS", x.count(1), 2);
    }

    private static void faultyHouse() {
        Check.sentence("or the FAULT (all stays)");
        WheelBook x = Tell.withHouse("set 2 mars at 60 goes 1000 swing 10 in 4;hand 3 for 4;" + Tell.LEVEL);
        String more = "set 2 mars at 120 goes 5;set 3 sun at 9 goes 0;hand 5 for 6;" + Tell.STEEP;
        String[] ends = {"x", "hand 30", "hand 1 for 1", "set 2 mars at 180 goes 7 swing 9 in 1;", "climate 1"};
        for (String end : ends) {
            Check.is("3: a FAULT at last", Tell.house(x, more + end) > 0, true);
            Check.is("7: place stays", x.place(2, 4, 0), 70);
            Check.is("7: place stays", x.place(2, 4, 2), 52);
            Check.is("7: place stays", x.place(3, 0, 0), 0);
            Check.is("6: HANDS stay", x.count(1), 1);
            Check.is("6: CLIMATES stay", x.count(0), 1);
        }
        Tell.told(x, 0, 0, "sun 0 5;");
        Tell.house(x, "set 0 sun at 360 goes 0;");
        Check.is("9: no HAND of them is used", x.cost(0, 0, 0, 0), 9);
        Check.missing("14: no CLIMATE of them", () -> x.climb(1, 0));
        Check.is("3: told without a FAULT", Tell.house(x, more), 0);
        Check.is("7: now it counts", x.place(2, 4, 0), 120);
        Check.is("9: now it counts", x.cost(0, 0, 0, 0), 1);
        Check.is("14: now it counts", x.climb(1, 1), 200);
    }

    private static void houseRefused() {
        Check.sentence("IllegalArgumentException: the tape has not so many, n below 0 (nothing changes).");
        WheelBook x = new WheelBook();
        Check.is("3: FAULT", Tell.house(x, "hand 1 for x;"), 1);
        Tell.feed(x, "hand 1 for 2;");
        Check.illegal("3: 21 of 20", () -> x.house(21));
        Check.illegal("3: 600 of 20", () -> x.house(600));
        Check.illegal("3: -1", () -> x.house(-1));
        Check.illegal("3: least", () -> x.house(Integer.MIN_VALUE));
        Check.illegal("3: greatest", () -> x.house(Integer.MAX_VALUE));
        Check.is("6: the tape stays", x.count(4), 20);
        Check.is("5: the FAULT stays", x.fault(), 11);
        Check.is("6: nothing is told", x.count(1), 0);
        Check.is("3: all 20", x.house(20), 0);
        Check.is("6: it is told", x.count(1), 1);
    }

    private static void wheel() {
        Check.sentence("They are a WHEEL of a BOOK, in place of what that was: 0, or the FAULT (it stays).");
        WheelBook x = new WheelBook();
        Tell.told(x, 5, 19, "sun 1 1;moon 2 2;date 3 3;");
        Tell.told(x, 5, 19, "moon 4 4;");
        Check.is("8: the sun is gone", x.entry(5, 19, 0), -1);
        Check.is("8: the moon is new", x.entry(5, 19, 1), 124);
        Check.is("8: the DATE is gone", x.entry(5, 19, 21), -1);
        String[] faulty = {"sun 1 1;x", "sun 1 1;moon 12", "sun 1 1;sun", "sun 1 1;date 12 5;", "sun 1 1"};
        for (String text : faulty) {
            Check.is("4: a FAULT", Tell.wheel(x, 5, 19, text) > 0, true);
            Check.is("6: the tape is empty", x.count(4), 0);
            Check.is("8: it stays", x.entry(5, 19, 0), -1);
            Check.is("8: it stays", x.entry(5, 19, 1), 124);
        }
        Tell.told(x, 5, 19, "");
        Check.is("8: nothing in place of it", x.entry(5, 19, 1), -1);
        Check.is("6: nothing", x.count(2), 0);
        Tell.feed(x, "lot 1 1;sun 1 1;");
        Check.is("4: the first 8 bytes alone", x.wheel(0, 0, 8), 0);
        Check.is("8: LOT", x.entry(0, 0, 8), 31);
        Check.is("8: no sun", x.entry(0, 0, 0), -1);
        Check.is("6: empty then", x.count(4), 0);
    }

    private static void wheelRefused() {
        Check.sentence("NoSuchElementException: no such BOOK, WHEEL (as everywhere). IllegalArgumentException (behind that) likewise.");
        WheelBook x = Tell.withWheel("sun 1 1;");
        Check.is("4: FAULT", Tell.wheel(x, 0, 1, "sun 0 x"), 1);
        Tell.feed(x, "moon 1 1;");
        Check.illegal("4: 21 of 20", () -> x.wheel(0, 0, 21));
        Check.illegal("4: -1", () -> x.wheel(0, 0, -1));
        Check.illegal("4: least", () -> x.wheel(5, 19, Integer.MIN_VALUE));
        Check.illegal("4: greatest", () -> x.wheel(5, 19, Integer.MAX_VALUE));
        Check.missing("4: BOOK 6 comes first", () -> x.wheel(6, 0, 21));
        Check.missing("4: BOOK -1 comes first", () -> x.wheel(-1, 0, -1));
        Check.missing("4: WHEEL 20 comes first", () -> x.wheel(0, 20, 21));
        Check.missing("4: WHEEL -1 comes first", () -> x.wheel(0, -1, -1));
        Check.missing("4: BOOK 6", () -> x.wheel(6, 0, 9));
        Check.missing("4: WHEEL 20", () -> x.wheel(5, 20, 9));
        Check.is("6: the tape stays", x.count(4), 20);
        Check.is("5: the FAULT stays", x.fault(), 6);
        Check.is("8: the WHEEL stays", x.entry(0, 0, 0), 31);
        Check.is("4: all 20", x.wheel(0, 0, 20), 0);
        Check.is("8: it is told", x.entry(0, 0, 1), 31);
    }

    private static void fault() {
        Check.sentence("The place of the FAULT of the latest of these two; NONE without.");
        WheelBook x = new WheelBook();
        Check.is("5: none yet", x.fault(), -1);
        Tell.house(x, " x");
        Check.is("5: of a HOUSE", x.fault(), 1);
        Tell.wheel(x, 0, 0, "  x");
        Check.is("5: of a WHEEL", x.fault(), 2);
        Tell.wheel(x, 0, 0, "x");
        Check.is("5: at 0", x.fault(), 0);
        Tell.house(x, "");
        Check.is("5: without", x.fault(), -1);
        Tell.house(x, "   x");
        Check.is("5: of a HOUSE", x.fault(), 3);
        Tell.wheel(x, 0, 0, "sun 1 1;");
        Check.is("5: without", x.fault(), -1);
    }

    private static void count() {
        Check.sentence("0 CLIMATES, 1 HANDS, 2 WHEELS that tell something (of all BOOKS), 3 LIVES, 4 bytes of the tape, 5 FATES.");
        WheelBook x = new WheelBook();
        for (int what = 0; what <= 5; what++) {
            Check.is("6: none, of " + what, x.count(what), 0);
        }
        Tell.house(x, climates(2) + "hand 1 for 2;hand 2 for 3;hand 3 for 4;");
        Tell.told(x, 0, 0, "sun 0 0;");
        Tell.told(x, 5, 19, "date 0 0;");
        Tell.told(x, 2, 3, "house 12 0 0;");
        Tell.told(x, 2, 4, "");
        Tell.told(x, 2, 5, "lot 0 0;");
        for (int wheel = 0; wheel < 20; wheel++) {
            x.life(wheel, wheel, 0);
        }
        for (int wheel = 0; wheel < 19; wheel++) {
            x.fate(wheel, 12);
        }
        Tell.feed(x, filled("", 40));
        int[] due = {2, 3, 4, 20, 40, 19};
        for (int what = 0; what <= 5; what++) {
            Check.is("6: of " + what, x.count(what), due[what]);
        }
        Check.sentence("NoSuchElementException: another what.");
        Check.missing("6: 6", () -> x.count(6));
        Check.missing("6: -1", () -> x.count(-1));
    }
}
