import java.util.Arrays;
import java.util.NoSuchElementException;

/** Wheels without a year, beside skies by four SETS of tables; the words in capitals are those of DOC.md. */
public final class WheelBook {

    public static final int NONE = -1;

    private static final int BOOKS = 6;
    private static final int WHEELS = 20;
    private static final int ALL_WHEELS = 120;
    private static final int SETS = 4;
    private static final int LAST_DAY = 1000000;
    private static final int YEAR = 365;
    private static final int MOST_FURTHER = 50000;

    private static final int RING = 21600;
    private static final int DEGREE = 60;
    private static final int DEGREES = 360;
    private static final int SIGN = 30;
    private static final int SIGNS = 12;
    private static final int TIMES = 360;

    private static final int ENTRIES = 22;
    private static final int WANDERERS = 7;
    private static final int SUN = 0;
    private static final int MOON = 1;
    private static final int RISE = 7;
    private static final int LOT = 8;
    private static final int FIRST_HOUSE = 9;
    private static final int HOUSES = 12;
    private static final int DATE = 21;

    private static final int MOST_YEARS = 120;

    private final Text text;
    private final House told;
    private final House draft;
    private final Books books;
    private final Fit fit;
    private final Search latestBest;
    private final Search trial;
    private final Search search;
    private final Search kept;
    private final Tree copies;
    private final Leaves leaves;
    private final Births parts;
    private final Outcomes outcomes;

    public WheelBook() {
        text = new Text();
        told = new House();
        draft = new House();
        books = new Books();
        fit = new Fit();
        latestBest = new Search();
        trial = new Search();
        search = new Search();
        kept = new Search();
        copies = new Tree();
        leaves = new Leaves();
        parts = new Births();
        outcomes = new Outcomes();
    }

    // ---- what is told

    public int feed(int a, int b, int c, int d, int e) {
        if (!text.hasRoom()) {
            return NONE;
        }
        text.put(a);
        text.put(b);
        text.put(c);
        text.put(d);
        text.put(e);
        return text.length;
    }

    public int house(int n) throws IllegalArgumentException {
        allow(within(n, 0, text.length));
        text.begin(n);
        draft.copyFrom(told);
        if (draft.readLines(text)) {
            told.copyFrom(draft);
        }
        return text.faultKind;
    }

    public int wheel(int book, int wheel, int n) throws NoSuchElementException, IllegalArgumentException {
        int number = numberOf(book, wheel);
        allow(within(n, 0, text.length));
        text.begin(n);
        if (books.readEntries(text)) {
            books.keepDraft(number);
        }
        return text.faultKind;
    }

    public int fault() {
        return text.faultPlace;
    }

    public int count(int what) throws NoSuchElementException {
        switch (what) {
            case 0:
                return told.climates.many;
            case 1:
                return told.hands.many;
            case 2:
                return books.howManyTell();
            case 3:
                return outcomes.howManyLives();
            case 4:
                return text.length;
            case 5:
                return outcomes.howManyFates();
            default:
                throw new NoSuchElementException("no such count");
        }
    }

    public int place(int set, int wanderer, int day) throws NoSuchElementException {
        need(within(set, 0, SETS - 1) && within(wanderer, 0, WANDERERS - 1) && isDay(day));
        return told.placeOn(set, wanderer, day);
    }

    public int entry(int book, int wheel, int entry) throws NoSuchElementException {
        int number = numberOf(book, wheel);
        need(within(entry, 0, ENTRIES - 1));
        return books.degreeOf(number, entry);
    }

    // ---- days on which a WHEEL fits

    public int cost(int book, int wheel, int set, int day) throws NoSuchElementException {
        int number = numberOf(book, wheel);
        need(within(set, 0, SETS - 1) && isDay(day));
        return Fit.costOn(told, books, number, set, day, Fit.ABOVE_ALL);
    }

    public int best(int book, int wheel, int set, int from, int further)
            throws NoSuchElementException, IllegalArgumentException {
        int number = numberOf(book, wheel);
        need(within(set, 0, SETS - 1) && isDay(from));
        allow(isSpan(from, further));
        latestBest.begin(number, set, from);
        latestBest.goOn(told, books, further + 1);
        return latestBest.least;
    }

    public int day(int i) throws NoSuchElementException {
        need(latestBest.begun);
        if (i == NONE) {
            return latestBest.many;
        }
        need(within(i, 0, latestBest.howManyKept() - 1));
        return latestBest.keptDay(i);
    }

    public int whose(int book, int wheel, int from, int further, int what)
            throws NoSuchElementException, IllegalArgumentException {
        int number = numberOf(book, wheel);
        need(isDay(from) && within(what, 0, 2));
        allow(isSpan(from, further));
        int least = Fit.ABOVE_ALL;
        int owner = 0;
        int sharers = 0;
        for (int set = 0; set < SETS; set++) {
            trial.begin(number, set, from);
            trial.goOn(told, books, further + 1);
            if (trial.least < least) {
                least = trial.least;
                owner = set;
                sharers = 0;
            }
            if (trial.least == least) {
                sharers++;
            }
        }
        return what == 0 ? owner : what == 1 ? least : sharers;
    }

    public int mixed(int book, int wheel, int from, int further)
            throws NoSuchElementException, IllegalArgumentException {
        int number = numberOf(book, wheel);
        need(isDay(from));
        allow(isSpan(from, further));
        int days = 0;
        for (int ahead = 0; ahead <= further; ahead++) {
            if (Fit.isMixed(told, books, number, from + ahead)) {
                days++;
            }
        }
        return days;
    }

    // ---- hours, climates, houses

    public int climb(int climate, int place) throws NoSuchElementException {
        need(isClimate(climate) && within(place, 0, RING - 1));
        return told.climates.climbOf(climate, place);
    }

    public int rise(int climate, int sun, int time) throws NoSuchElementException {
        need(isClimate(climate) && within(sun, 0, RING - 1) && within(time, 0, TIMES - 1));
        return told.climates.risingAt(climate, sun, time);
    }

    public int middle(int climate, int place) throws NoSuchElementException {
        need(isClimate(climate) && within(place, 0, RING - 1));
        return told.climates.middleOf(climate, place);
    }

    public int hour(int book, int wheel, int i) throws NoSuchElementException {
        int number = numberOf(book, wheel);
        int sun = books.degreeOf(number, SUN);
        int rise = books.degreeOf(number, RISE);
        boolean known = sun != NONE && rise != NONE;
        if (i == NONE) {
            return known ? told.climates.howManyHours(sun, rise) : NONE;
        }
        int found = known ? told.climates.nthHour(sun, rise, i) : NONE;
        need(found != NONE);
        return found;
    }

    public int houseOf(int degree, int way, int climate, int house) throws NoSuchElementException {
        need(within(degree, 0, DEGREES - 1) && isWay(way, climate) && within(house, 1, HOUSES));
        return told.climates.houseDegree(degree, way, climate, house);
    }

    public int agree(int book, int wheel, int way, int climate) throws NoSuchElementException {
        int number = numberOf(book, wheel);
        need(isWay(way, climate));
        if (books.degreeOf(number, RISE) == NONE) {
            return NONE;
        }
        return books.howManyHouses(number) - books.howManyDiffer(told.climates, number, way, climate);
    }

    public int lot(int book, int wheel, int what) throws NoSuchElementException {
        int number = numberOf(book, wheel);
        need(within(what, 0, 1));
        int due = books.lotOf(number);
        if (what == 0 || due == NONE) {
            return due;
        }
        int read = books.degreeOf(number, LOT);
        return read == NONE ? NONE : told.hands.costBeside(read, due);
    }

    public int price(int from, int copy) throws NoSuchElementException {
        need(isBook(from) && isBook(copy));
        return Tree.priceOf(told.hands, books, from, copy);
    }

    // ---- the SEARCH

    public void seek(int book, int wheel, int set, int from) throws NoSuchElementException {
        int number = numberOf(book, wheel);
        need(within(set, 0, SETS - 1) && isDay(from));
        search.begin(number, set, from);
    }

    public int on(int days) throws NoSuchElementException, IllegalArgumentException {
        need(search.begun);
        allow(within(days, 0, MOST_FURTHER));
        return search.goOn(told, books, days);
    }

    public int held(int what) throws NoSuchElementException {
        need(search.begun && within(what, 0, 4));
        boolean none = search.many == 0;
        switch (what) {
            case 0:
                return search.next;
            case 1:
                return none ? NONE : search.least;
            case 2:
                return search.many;
            case 3:
                return none ? NONE : search.keptDay(0);
            default:
                return none ? NONE : search.latest;
        }
    }

    public boolean image() {
        if (!search.begun) {
            return false;
        }
        kept.copyFrom(search);
        return true;
    }

    public boolean restore() {
        if (!kept.begun) {
            return false;
        }
        search.copyFrom(kept);
        return true;
    }

    // ---- misreadings, and whose errors they are

    public int misread(int book, int wheel, int set, int day, int wanderer) throws NoSuchElementException {
        int number = numberOf(book, wheel);
        need(within(set, 0, SETS - 1) && isDay(day) && within(wanderer, 0, WANDERERS - 1));
        int read = books.degreeOf(number, wanderer);
        return read == NONE ? NONE : told.hands.misreading(read, told.degreeOn(set, wanderer, day));
    }

    public int errors(int book, int wheel, int day, int what) throws NoSuchElementException {
        int number = numberOf(book, wheel);
        need(isDay(day) && within(what, 0, 10));
        fit.setSharers(told, books, number, day);
        if (what == 0) {
            return fit.howManyErrors();
        }
        if (what == 1) {
            return fit.setFollowed();
        }
        int set = (what - 2) % 3 + 1;
        if (what < 5) {
            return fit.howManyShared(set);
        }
        return what < 8 ? fit.howManyAlone(set) : fit.weightOf(set);
    }

    public int possible(int book, int wheel, int what) throws NoSuchElementException {
        int number = numberOf(book, wheel);
        need(within(what, 0, 1));
        if (books.degreeOf(number, RISE) == NONE) {
            return NONE;
        }
        if (what == 0) {
            return waysThatCanBe(number);
        }
        return books.degreeOf(number, SUN) == NONE ? NONE : climatesThatCanBe(number);
    }

    // ---- which BOOK was copied from which

    public int slips(int read, int stood) throws NoSuchElementException {
        need(within(read, 0, SIGN - 1) && within(stood, 0, SIGN - 1) && copies.isKept);
        return copies.howManySlips(told.hands, books, read, stood);
    }

    public int handed(int a, int b, int c) throws NoSuchElementException {
        need(isBook(a) && isBook(b) && isBook(c));
        return books.howManyHanded(a, b, c);
    }

    public int leaf(int book, int wheel) throws NoSuchElementException {
        need(isBook(book) && within(wheel, 0, WHEELS - 1));
        return leaves.addTo(book, wheel);
    }

    public int order(int a, int b, int what) throws NoSuchElementException {
        need(isBook(a) && isBook(b) && within(what, 0, 1));
        return what == 0 ? leaves.howManyInOrder(a, b) : leaves.howManyTurned(a, b);
    }

    public boolean same(int wheel, int other, int k) throws NoSuchElementException {
        need(isNumber(wheel) && isNumber(other) && within(k, 1, WANDERERS));
        return Births.areOne(told.hands, books, wheel, other, k);
    }

    public int births(int wheel, int k) throws NoSuchElementException {
        need((wheel == NONE || isNumber(wheel)) && within(k, 1, WANDERERS));
        parts.partBy(told.hands, books, k);
        return wheel == NONE ? parts.howManyParts(books) : parts.leastOf(wheel);
    }

    public int tree() {
        if (!copies.setBooks(books)) {
            return NONE;
        }
        copies.setPrices(told.hands, books);
        return copies.grow();
    }

    public int whence(int book) throws NoSuchElementException {
        need(isBook(book) && copies.isKept && copies.holds(book));
        return copies.parentOf(book);
    }

    // ---- deaths foretold, and those that came

    public boolean life(int wheel, int foretold, int came) throws NoSuchElementException {
        need(within(wheel, 0, WHEELS - 1));
        if (!within(foretold, 0, MOST_YEARS) || !within(came, 0, MOST_YEARS)) {
            return false;
        }
        outcomes.tellLife(wheel, foretold, came);
        return true;
    }

    public boolean fate(int wheel, int house) throws NoSuchElementException {
        need(within(wheel, 0, WHEELS - 1));
        if (!within(house, 1, HOUSES)) {
            return false;
        }
        outcomes.tellFate(wheel, house);
        return true;
    }

    public int fates(int what) throws NoSuchElementException {
        need(within(what, 0, 1));
        return what == 0 ? outcomes.howManyToldByLot(books) : outcomes.chanceOfFates(books);
    }

    public int hits(int what, int slack) throws NoSuchElementException {
        need(within(what, 0, 1) && within(slack, 0, MOST_YEARS));
        return what == 0 ? outcomes.howManyHits(slack) : outcomes.chanceOfLives(slack);
    }

    // ---- what the calls above ask of their arguments

    private static boolean within(int x, int least, int most) {
        return x >= least && x <= most;
    }

    private static boolean isBook(int book) {
        return within(book, 0, BOOKS - 1);
    }

    private static boolean isNumber(int number) {
        return within(number, 0, ALL_WHEELS - 1);
    }

    private static boolean isDay(int day) {
        return within(day, 0, LAST_DAY);
    }

    private static boolean isSpan(int from, int further) {
        return within(further, 0, MOST_FURTHER) && further <= LAST_DAY - from;
    }

    private boolean isClimate(int climate) {
        return within(climate, 0, told.climates.many - 1);
    }

    private boolean isWay(int way, int climate) {
        return within(way, 0, 1) || way == 2 && isClimate(climate);
    }

    private static void need(boolean there) {
        if (!there) {
            throw new NoSuchElementException("there is none such");
        }
    }

    private static void allow(boolean fits) {
        if (!fits) {
            throw new IllegalArgumentException("not as the document tells");
        }
    }

    private static int numberOf(int book, int wheel) {
        need(isBook(book) && within(wheel, 0, WHEELS - 1));
        return WHEELS * book + wheel;
    }

    private int waysThatCanBe(int number) {
        int bits = 0;
        if (books.howManyDiffer(told.climates, number, 0, 0) == 0) {
            bits |= 1;
        }
        if (books.howManyDiffer(told.climates, number, 1, 0) == 0) {
            bits |= 2;
        }
        for (int climate = 0; climate < told.climates.many; climate++) {
            if (books.howManyDiffer(told.climates, number, 2, climate) == 0) {
                bits |= 4;
            }
        }
        return bits;
    }

    private int climatesThatCanBe(int number) {
        int sun = books.degreeOf(number, SUN);
        int rise = books.degreeOf(number, RISE);
        int bits = 0;
        for (int climate = 0; climate < told.climates.many; climate++) {
            boolean agrees = books.howManyDiffer(told.climates, number, 2, climate) == 0;
            if (agrees && told.climates.hasHour(climate, sun, rise)) {
                bits |= 1 << climate;
            }
        }
        return bits;
    }

    /** The tape, and the TOKENS of the text on it, one at a time, up to the first FAULT. */
    private static final class Text {
        static final int MOST = 600;
        static final int FEED = 20;
        static final int MOST_DIGITS = 7;
        static final int MOST_NUMBER = 9999999;

        static final int END = 0;
        static final int WORD = 1;
        static final int NUMBER = 2;
        static final int STOP = 3;
        static final int OTHER = 4;

        static final int CANNOT_STAND = 1;
        static final int TOO_MUCH = 2;
        static final int TOLD_ALREADY = 3;

        private final byte[] bytes = new byte[MOST];
        int length;
        private int end;
        private int start;
        private int at;
        private int kind;
        private int value;
        int number;
        int faultKind;
        int faultPlace = NONE;

        boolean hasRoom() {
            return length <= MOST - FEED;
        }

        void put(int four) {
            for (int shift = 24; shift >= 0 && length < MOST; shift -= 8) {
                bytes[length] = (byte) (four >> shift);
                length++;
            }
        }

        /** The bytes stay where they are until the next feed, so the text can still be read from an empty tape. */
        void begin(int n) {
            end = Math.min(n, length);
            length = 0;
            at = 0;
            faultKind = 0;
            faultPlace = NONE;
            step();
        }

        boolean isAtEnd() {
            return kind == END;
        }

        void step() {
            while (at < end && isBlank(bytes[at])) {
                at++;
            }
            start = at;
            if (at >= end) {
                kind = END;
            } else if (isLetter(bytes[at])) {
                kind = WORD;
                while (at < end && isLetter(bytes[at])) {
                    at++;
                }
            } else if (isDigit(bytes[at])) {
                kind = NUMBER;
                value = 0;
                while (at < end && isDigit(bytes[at])) {
                    value = at - start < MOST_DIGITS ? 10 * value + bytes[at] - '0' : value;
                    at++;
                }
            } else {
                kind = bytes[at] == ';' ? STOP : OTHER;
                at++;
            }
        }

        private static boolean isBlank(int b) {
            return b == 32 || b == 10;
        }

        private static boolean isLetter(int b) {
            return b >= 'a' && b <= 'z';
        }

        private static boolean isDigit(int b) {
            return b >= '0' && b <= '9';
        }

        boolean isWord(String word) {
            if (kind != WORD || at - start != word.length()) {
                return false;
            }
            for (int i = 0; i < word.length(); i++) {
                if (bytes[start + i] != word.charAt(i)) {
                    return false;
                }
            }
            return true;
        }

        /** The ENTRY that the word names, of the first so many. */
        int namedOf(int many) {
            for (int entry = 0; entry < many; entry++) {
                if (isWord(nameOf(entry))) {
                    return entry;
                }
            }
            return NONE;
        }

        private static String nameOf(int entry) {
            switch (entry) {
                case 0:
                    return "sun";
                case 1:
                    return "moon";
                case 2:
                    return "mercury";
                case 3:
                    return "venus";
                case 4:
                    return "mars";
                case 5:
                    return "jupiter";
                case 6:
                    return "saturn";
                case 7:
                    return "rise";
                default:
                    return "lot";
            }
        }

        boolean refuse(int fault) {
            faultKind = fault;
            faultPlace = start;
            return false;
        }

        boolean takeWord(String word) {
            if (!isWord(word)) {
                return refuse(CANNOT_STAND);
            }
            step();
            return true;
        }

        boolean takeStop() {
            if (kind != STOP) {
                return refuse(CANNOT_STAND);
            }
            step();
            return true;
        }

        /** A check alone: a FAULT that must still be told at this very TOKEN can follow it. */
        boolean holdsNumber(int least, int most) {
            if (kind != NUMBER) {
                return refuse(CANNOT_STAND);
            }
            if (at - start > MOST_DIGITS || value < least || value > most) {
                return refuse(TOO_MUCH);
            }
            number = value;
            return true;
        }

        boolean takeNumber(int least, int most) {
            if (!holdsNumber(least, most)) {
                return false;
            }
            step();
            return true;
        }
    }

    /** What HOUSES told: the SETS of tables, CLIMATES and HANDS. A second one is the draft of a text that may fail. */
    private static final class House {
        static final int ROWS = 28;
        static final int MOST_GOES = 2000000;
        static final int MOST_SWING = 10800;
        static final int LEAST_PERIOD = 2;
        static final int MOST_PERIOD = 1000000;

        private final int[] at = new int[ROWS];
        private final int[] goes = new int[ROWS];
        private final int[] swing = new int[ROWS];
        private final int[] period = new int[ROWS];
        final Climates climates = new Climates();
        final Hands hands = new Hands();

        House() {
            Arrays.fill(period, 1);
        }

        void copyFrom(House other) {
            System.arraycopy(other.at, 0, at, 0, ROWS);
            System.arraycopy(other.goes, 0, goes, 0, ROWS);
            System.arraycopy(other.swing, 0, swing, 0, ROWS);
            System.arraycopy(other.period, 0, period, 0, ROWS);
            climates.copyFrom(other.climates);
            hands.copyFrom(other.hands);
        }

        boolean readLines(Text text) {
            boolean fine = true;
            for (int line = 0; line < Text.MOST && fine && !text.isAtEnd(); line++) {
                if (text.isWord("set")) {
                    fine = readSet(text);
                } else if (text.isWord("climate")) {
                    fine = climates.readClimate(text);
                } else if (text.isWord("hand")) {
                    fine = hands.readHand(text);
                } else {
                    fine = text.refuse(Text.CANNOT_STAND);
                }
            }
            return fine;
        }

        private boolean readSet(Text text) {
            text.step();
            if (!text.takeNumber(0, SETS - 1)) {
                return false;
            }
            int set = text.number;
            int wanderer = text.namedOf(WANDERERS);
            if (wanderer == NONE) {
                return text.refuse(Text.CANNOT_STAND);
            }
            text.step();
            return readTable(text, WANDERERS * set + wanderer) && text.takeStop();
        }

        private boolean readTable(Text text, int row) {
            if (!text.takeWord("at") || !text.takeNumber(0, RING - 1)) {
                return false;
            }
            at[row] = text.number;
            if (!text.takeWord("goes") || !text.takeNumber(0, MOST_GOES)) {
                return false;
            }
            goes[row] = text.number;
            swing[row] = 0;
            period[row] = 1;
            if (!text.isWord("swing")) {
                return true;
            }
            text.step();
            if (!text.takeNumber(0, MOST_SWING)) {
                return false;
            }
            swing[row] = text.number;
            if (!text.takeWord("in") || !text.takeNumber(LEAST_PERIOD, MOST_PERIOD)) {
                return false;
            }
            period[row] = text.number;
            return true;
        }

        int placeOn(int set, int wanderer, int day) {
            int row = WANDERERS * set + wanderer;
            long gone = (long) goes[row] * day / 1000;
            return (int) Math.floorMod(at[row] + gone + swingOn(row, day), (long) RING);
        }

        private long swingOn(int row, int day) {
            int span = period[row];
            if (swing[row] == 0 || span < 1) {
                return 0;
            }
            int x = day % span;
            long height = 2L * Math.abs(2 * x - span) - span;
            return Math.floorDiv(height * swing[row], (long) span);
        }

        int degreeOn(int set, int wanderer, int day) {
            return placeOn(set, wanderer, day) / DEGREE;
        }
    }

    /** CLIMATES by their RISING numbers, each SIGN's held as the sum of those ahead of it. */
    private static final class Climates {
        static final int MOST = 7;
        static final int WIDTH = 13;
        static final int ALL_RISING = 3600;
        static final int SIGN_MINUTES = 1800;
        static final int TURN = 6480000;
        static final int QUARTER = 1620000;
        static final int CLIMB_OF_TIME = 18000;

        private final int[] ahead = new int[MOST * WIDTH];
        int many;

        void copyFrom(Climates other) {
            System.arraycopy(other.ahead, 0, ahead, 0, MOST * WIDTH);
            many = other.many;
        }

        boolean readClimate(Text text) {
            if (many >= MOST) {
                return text.refuse(Text.TOO_MUCH);
            }
            text.step();
            if (!text.takeNumber(many, many) || !readRising(text)) {
                return false;
            }
            many++;
            return text.takeStop();
        }

        private boolean readRising(Text text) {
            int sum = 0;
            for (int sign = 0; sign < SIGNS; sign++) {
                int rest = ALL_RISING - sum;
                boolean last = sign == SIGNS - 1;
                if (!text.takeNumber(last ? Math.max(1, rest) : 1, last ? rest : Text.MOST_NUMBER)) {
                    return false;
                }
                sum += text.number;
                ahead[WIDTH * many + sign + 1] = sum;
            }
            return true;
        }

        int climbOf(int climate, int place) {
            int sign = place / SIGN_MINUTES;
            int before = ahead[WIDTH * climate + sign];
            int rising = ahead[WIDTH * climate + sign + 1] - before;
            return SIGN_MINUTES * before + rising * (place % SIGN_MINUTES);
        }

        private int placeOf(int climate, int climb) {
            int sign = 0;
            for (int next = 1; next < SIGNS && SIGN_MINUTES * ahead[WIDTH * climate + next] <= climb; next++) {
                sign = next;
            }
            int before = ahead[WIDTH * climate + sign];
            int rising = ahead[WIDTH * climate + sign + 1] - before;
            if (rising < 1) {
                return 0;
            }
            return SIGN_MINUTES * sign + (climb - SIGN_MINUTES * before) / rising;
        }

        int risingAt(int climate, int sun, int time) {
            return placeOf(climate, (climbOf(climate, sun) + CLIMB_OF_TIME * time) % TURN);
        }

        int middleOf(int climate, int place) {
            return placeOf(0, Math.floorMod(climbOf(climate, place) - QUARTER, TURN));
        }

        private boolean isHour(int climate, int time, int sun, int rise) {
            return risingAt(climate, DEGREE * sun, time) / DEGREE == rise;
        }

        boolean hasHour(int climate, int sun, int rise) {
            for (int time = 0; time < TIMES; time++) {
                if (isHour(climate, time, sun, rise)) {
                    return true;
                }
            }
            return false;
        }

        int howManyHours(int sun, int rise) {
            int hours = 0;
            for (int code = 0; code < TIMES * many; code++) {
                if (isHour(code / TIMES, code % TIMES, sun, rise)) {
                    hours++;
                }
            }
            return hours;
        }

        int nthHour(int sun, int rise, int n) {
            int left = n;
            for (int code = 0; code < TIMES * many && left >= 0; code++) {
                if (isHour(code / TIMES, code % TIMES, sun, rise)) {
                    if (left == 0) {
                        return code;
                    }
                    left--;
                }
            }
            return NONE;
        }

        int houseDegree(int degree, int way, int climate, int house) {
            if (way == 0) {
                return (degree / SIGN + house - 1) % SIGNS * SIGN;
            }
            if (way == 1) {
                return (degree + SIGN * (house - 1)) % DEGREES;
            }
            return houseByMiddle(degree, climate, house);
        }

        /** Houses 4 to 9 stand across from 10 to 3, so only those need their thirds. */
        private int houseByMiddle(int degree, int climate, int house) {
            boolean across = house >= 4 && house <= 9;
            int near = !across ? house : house < 7 ? house + 6 : house - 6;
            int middle = middleOf(climate, DEGREE * degree) / DEGREE;
            int on;
            if (near >= 10) {
                on = middle + (near - 10) * Math.floorMod(degree - middle, DEGREES) / 3;
            } else {
                on = degree + (near - 1) * Math.floorMod(middle + DEGREES / 2 - degree, DEGREES) / 3;
            }
            return (across ? on + DEGREES / 2 : on) % DEGREES;
        }
    }

    /** HANDS: of each number that was read, those for which it was read, as bits. */
    private static final class Hands {
        static final int MOST = 30;

        private final int[] stoodFor = new int[SIGN];
        int many;

        void copyFrom(Hands other) {
            System.arraycopy(other.stoodFor, 0, stoodFor, 0, SIGN);
            many = other.many;
        }

        boolean readHand(Text text) {
            if (many >= MOST) {
                return text.refuse(Text.TOO_MUCH);
            }
            text.step();
            if (!text.takeNumber(0, SIGN - 1)) {
                return false;
            }
            int read = text.number;
            if (!text.takeWord("for") || !text.takeNumber(0, SIGN - 1)) {
                return false;
            }
            stoodFor[read] |= 1 << text.number;
            many++;
            return text.takeStop();
        }

        private boolean isRead(int read, int stood) {
            return (stoodFor[read] >> stood & 1) == 1;
        }

        /** 0 alike, 1 the degree, 2 the SIGN was misread, 9 neither. */
        int misreading(int read, int stood) {
            if (read == stood) {
                return 0;
            }
            if (read / SIGN == stood / SIGN) {
                return isRead(read % SIGN, stood % SIGN) ? 1 : 9;
            }
            boolean signMisread = read % SIGN == stood % SIGN && isRead(read / SIGN, stood / SIGN);
            return signMisread ? 2 : 9;
        }

        int costBeside(int read, int stood) {
            int how = misreading(read, stood);
            return how == 2 ? 1 : how;
        }
    }

    /** The ENTRIES of all WHEELS by number (20 by the BOOK, and its own); NONE what isn't told. */
    private static final class Books {
        private final int[] degrees = new int[ALL_WHEELS * ENTRIES];
        private final int[] draft = new int[ENTRIES];

        Books() {
            Arrays.fill(degrees, NONE);
        }

        int degreeOf(int number, int entry) {
            return degrees[ENTRIES * number + entry];
        }

        void keepDraft(int number) {
            System.arraycopy(draft, 0, degrees, ENTRIES * number, ENTRIES);
        }

        boolean readEntries(Text text) {
            Arrays.fill(draft, NONE);
            for (int i = 0; i < Text.MOST && !text.isAtEnd(); i++) {
                if (!readEntry(text)) {
                    return false;
                }
            }
            return true;
        }

        private boolean readEntry(Text text) {
            if (text.isWord("house")) {
                text.step();
                return text.holdsNumber(1, HOUSES) && readDegree(text, FIRST_HOUSE - 1 + text.number);
            }
            if (text.isWord("date")) {
                return readDate(text);
            }
            int entry = text.namedOf(FIRST_HOUSE);
            return entry == NONE ? text.refuse(Text.CANNOT_STAND) : readDegree(text, entry);
        }

        /** The TOKEN that says which ENTRY it is still stands: there a second telling is refused. */
        private boolean isNew(Text text, int entry) {
            if (draft[entry] != NONE) {
                return text.refuse(Text.TOLD_ALREADY);
            }
            text.step();
            return true;
        }

        private boolean readDegree(Text text, int entry) {
            if (!isNew(text, entry) || !text.takeNumber(0, SIGNS - 1)) {
                return false;
            }
            int sign = text.number;
            if (!text.takeNumber(0, SIGN - 1)) {
                return false;
            }
            draft[entry] = SIGN * sign + text.number;
            return text.takeStop();
        }

        private boolean readDate(Text text) {
            if (!isNew(text, DATE) || !text.takeNumber(0, 12)) {
                return false;
            }
            int month = text.number;
            if (!text.takeNumber(0, month == 12 ? 4 : 29)) {
                return false;
            }
            draft[DATE] = 30 * month + text.number;
            return text.takeStop();
        }

        boolean tellsSomething(int number) {
            for (int entry = 0; entry < ENTRIES; entry++) {
                if (degreeOf(number, entry) != NONE) {
                    return true;
                }
            }
            return false;
        }

        int howManyTell() {
            int wheels = 0;
            for (int number = 0; number < ALL_WHEELS; number++) {
                if (tellsSomething(number)) {
                    wheels++;
                }
            }
            return wheels;
        }

        boolean bookTells(int book) {
            for (int wheel = 0; wheel < WHEELS; wheel++) {
                if (tellsSomething(WHEELS * book + wheel)) {
                    return true;
                }
            }
            return false;
        }

        int howManyHouses(int number) {
            int houses = 0;
            for (int house = 1; house <= HOUSES; house++) {
                if (degreeOf(number, FIRST_HOUSE - 1 + house) != NONE) {
                    houses++;
                }
            }
            return houses;
        }

        /** Of the houses that are told those that don't AGREE; RISE must be told. */
        int howManyDiffer(Climates climates, int number, int way, int climate) {
            int rise = degreeOf(number, RISE);
            int houses = 0;
            for (int house = 1; house <= HOUSES; house++) {
                int degree = degreeOf(number, FIRST_HOUSE - 1 + house);
                if (degree != NONE && degree != climates.houseDegree(rise, way, climate, house)) {
                    houses++;
                }
            }
            return houses;
        }

        int lotOf(int number) {
            int sun = degreeOf(number, SUN);
            int moon = degreeOf(number, MOON);
            int rise = degreeOf(number, RISE);
            if (sun == NONE || moon == NONE || rise == NONE) {
                return NONE;
            }
            boolean isUp = Math.floorMod(rise - sun, DEGREES) < DEGREES / 2;
            return Math.floorMod(isUp ? rise + moon - sun : rise + sun - moon, DEGREES);
        }

        int howManyHanded(int a, int b, int c) {
            int entries = 0;
            for (int i = 0; i < WHEELS * ENTRIES; i++) {
                int first = degrees[WHEELS * ENTRIES * a + i];
                int second = degrees[WHEELS * ENTRIES * b + i];
                int third = degrees[WHEELS * ENTRIES * c + i];
                if (first != NONE && first == second && third != NONE && third != first) {
                    entries++;
                }
            }
            return entries;
        }
    }

    /** How a WHEEL stands to the skies of the SETS on a DAY. */
    private static final class Fit {
        static final int ABOVE_ALL = 1000;
        static final int WRONG_DATE = 30;

        /** Of each ERROR the SETS that share it, as bits; NONE of what is no ERROR. */
        private final int[] sharers = new int[WANDERERS];

        /** The COST; once it is above enough it is left there, as a search asks no more. */
        static int costOn(House house, Books books, int number, int set, int day, int enough) {
            int date = books.degreeOf(number, DATE);
            int cost = date != NONE && date != day % YEAR ? WRONG_DATE : 0;
            for (int wanderer = 0; wanderer < WANDERERS && cost <= enough; wanderer++) {
                int read = books.degreeOf(number, wanderer);
                if (read != NONE) {
                    cost += house.hands.costBeside(read, house.degreeOn(set, wanderer, day));
                }
            }
            return cost;
        }

        /** The SETS, as bits, by which a WANDERER stands just where the WHEEL tells it. */
        private static int setsAt(House house, int read, int wanderer, int day) {
            int bits = 0;
            for (int set = 0; set < SETS; set++) {
                if (house.degreeOn(set, wanderer, day) == read) {
                    bits |= 1 << set;
                }
            }
            return bits;
        }

        static boolean isMixed(House house, Books books, int number, int day) {
            int byAll = (1 << SETS) - 1;
            for (int wanderer = 0; wanderer < WANDERERS; wanderer++) {
                int read = books.degreeOf(number, wanderer);
                if (read != NONE) {
                    int bits = setsAt(house, read, wanderer, day);
                    if (bits == 0) {
                        return false;
                    }
                    byAll &= bits;
                }
            }
            return byAll == 0;
        }

        void setSharers(House house, Books books, int number, int day) {
            for (int wanderer = 0; wanderer < WANDERERS; wanderer++) {
                int read = books.degreeOf(number, wanderer);
                int bits = read == NONE ? 1 : setsAt(house, read, wanderer, day);
                sharers[wanderer] = (bits & 1) == 1 ? NONE : bits;
            }
        }

        private boolean isShared(int wanderer, int set) {
            return sharers[wanderer] != NONE && (sharers[wanderer] >> set & 1) == 1;
        }

        int howManyErrors() {
            int errors = 0;
            for (int wanderer = 0; wanderer < WANDERERS; wanderer++) {
                if (sharers[wanderer] != NONE) {
                    errors++;
                }
            }
            return errors;
        }

        int howManyShared(int set) {
            int shared = 0;
            for (int wanderer = 0; wanderer < WANDERERS; wanderer++) {
                if (isShared(wanderer, set)) {
                    shared++;
                }
            }
            return shared;
        }

        int howManyAlone(int set) {
            int alone = 0;
            for (int wanderer = 0; wanderer < WANDERERS; wanderer++) {
                if (sharers[wanderer] == 1 << set) {
                    alone++;
                }
            }
            return alone;
        }

        int weightOf(int set) {
            int weight = 0;
            for (int wanderer = 0; wanderer < WANDERERS; wanderer++) {
                int many = Integer.bitCount(sharers[wanderer]);
                if (isShared(wanderer, set) && many > 0) {
                    weight += 6 / many;
                }
            }
            return weight;
        }

        int setFollowed() {
            int greatest = 0;
            int found = NONE;
            for (int set = 1; set < SETS; set++) {
                int weight = weightOf(set);
                if (weight > greatest) {
                    greatest = weight;
                    found = set;
                }
            }
            return found;
        }
    }

    /** DAYS looked through one behind another for the least COST; BEST is one that goes on once. */
    private static final class Search {
        static final int MOST_KEPT = 20;

        boolean begun;
        private int number;
        private int set;
        int next;
        int least;
        int many;
        int latest;
        private final int[] days = new int[MOST_KEPT];

        void begin(int newNumber, int newSet, int from) {
            begun = true;
            number = newNumber;
            set = newSet;
            next = from;
            least = Fit.ABOVE_ALL;
            many = 0;
            latest = NONE;
        }

        void copyFrom(Search other) {
            begun = other.begun;
            number = other.number;
            set = other.set;
            next = other.next;
            least = other.least;
            many = other.many;
            latest = other.latest;
            System.arraycopy(other.days, 0, days, 0, MOST_KEPT);
        }

        int goOn(House house, Books books, int most) {
            int gone = 0;
            while (gone < most && next <= LAST_DAY) {
                lookAt(Fit.costOn(house, books, number, set, next, least));
                next++;
                gone++;
            }
            return gone;
        }

        private void lookAt(int cost) {
            if (cost > least) {
                return;
            }
            if (cost < least) {
                least = cost;
                many = 0;
            }
            if (many < MOST_KEPT) {
                days[many] = next;
            }
            many++;
            latest = next;
        }

        int howManyKept() {
            return Math.min(many, MOST_KEPT);
        }

        int keptDay(int i) {
            return i >= 0 && i < MOST_KEPT ? days[i] : NONE;
        }
    }

    /** PRICES of copies, and THE TREE of the least sum that is kept. */
    private static final class Tree {
        static final int ABSENT = -2;
        static final int OPEN = -3;
        static final int ABOVE_ALL = 1000000;

        private final int[] prices = new int[BOOKS * BOOKS];
        private final int[] row = new int[BOOKS];
        private final int[] bestRow = new int[BOOKS];
        private int least;
        boolean isKept;

        static int priceOf(Hands hands, Books books, int from, int copy) {
            int sum = 0;
            for (int wheel = 0; wheel < WHEELS; wheel++) {
                for (int entry = 0; entry < ENTRIES; entry++) {
                    int stood = books.degreeOf(WHEELS * from + wheel, entry);
                    int read = books.degreeOf(WHEELS * copy + wheel, entry);
                    sum += priceOfEntry(hands, entry, stood, read);
                }
            }
            return sum;
        }

        private static int priceOfEntry(Hands hands, int entry, int stood, int read) {
            if (stood == read) {
                return 0;
            }
            if (read == NONE) {
                return 1;
            }
            if (stood == NONE) {
                return 4;
            }
            return entry != DATE && hands.costBeside(read, stood) == 1 ? 1 : 3;
        }

        /** Whether there is a BOOK that tells something, and with it a TREE. */
        boolean setBooks(Books books) {
            boolean some = false;
            for (int book = 0; book < BOOKS; book++) {
                row[book] = books.bookTells(book) ? OPEN : ABSENT;
                some = some || row[book] == OPEN;
            }
            return some;
        }

        void setPrices(Hands hands, Books books) {
            for (int from = 0; from < BOOKS; from++) {
                for (int copy = 0; copy < BOOKS; copy++) {
                    boolean both = row[from] == OPEN && row[copy] == OPEN;
                    prices[BOOKS * from + copy] = both ? priceOf(hands, books, from, copy) : 0;
                }
            }
        }

        int grow() {
            least = ABOVE_ALL;
            choose(0, 0, false);
            isKept = true;
            return least;
        }

        /** Rows come in their order, NONE first, so of like sums the first found stays. */
        private void choose(int book, int sum, boolean rooted) {
            if (sum >= least) {
                return;
            }
            if (book >= BOOKS) {
                least = sum;
                System.arraycopy(row, 0, bestRow, 0, BOOKS);
                return;
            }
            if (row[book] == ABSENT) {
                choose(book + 1, sum, rooted);
                return;
            }
            if (!rooted) {
                row[book] = NONE;
                choose(book + 1, sum, true);
            }
            for (int from = 0; from < BOOKS; from++) {
                row[book] = OPEN;
                if (row[from] != ABSENT && !comesFrom(from, book)) {
                    row[book] = from;
                    choose(book + 1, sum + prices[BOOKS * from + book], rooted);
                }
            }
            row[book] = OPEN;
        }

        /** Whether a BOOK is another one, or copied from it by others, as far as the row goes. */
        private boolean comesFrom(int book, int other) {
            int at = book;
            for (int step = 0; step < BOOKS && at >= 0; step++) {
                if (at == other) {
                    return true;
                }
                at = row[at];
            }
            return false;
        }

        boolean holds(int book) {
            return bestRow[book] != ABSENT;
        }

        int parentOf(int book) {
            return bestRow[book];
        }

        int howManySlips(Hands hands, Books books, int read, int stood) {
            int slips = 0;
            for (int book = 0; book < BOOKS; book++) {
                if (bestRow[book] >= 0) {
                    slips += slipsOf(hands, books, book, read, stood);
                }
            }
            return slips;
        }

        private int slipsOf(Hands hands, Books books, int book, int read, int stood) {
            int slips = 0;
            for (int wheel = 0; wheel < WHEELS; wheel++) {
                for (int entry = 0; entry < DATE; entry++) {
                    int copied = books.degreeOf(WHEELS * book + wheel, entry);
                    int source = books.degreeOf(WHEELS * bestRow[book] + wheel, entry);
                    if (copied != NONE && source != NONE && isSlip(hands, copied, source, read, stood)) {
                        slips++;
                    }
                }
            }
            return slips;
        }

        private static boolean isSlip(Hands hands, int copied, int source, int read, int stood) {
            int how = hands.misreading(copied, source);
            if (how == 1) {
                return copied % SIGN == read && source % SIGN == stood;
            }
            return how == 2 && copied / SIGN == read && source / SIGN == stood;
        }
    }

    /** LEAVES: the order of the WHEELS in each BOOK. */
    private static final class Leaves {
        private final int[] wheels = new int[BOOKS * WHEELS];
        private final int[] many = new int[BOOKS];
        private final int[] places = new int[WHEELS];
        private final int[] longest = new int[WHEELS];

        int addTo(int book, int wheel) {
            if (placeOf(book, wheel) != NONE || many[book] >= WHEELS) {
                return NONE;
            }
            wheels[WHEELS * book + many[book]] = wheel;
            many[book]++;
            return many[book];
        }

        private int placeOf(int book, int wheel) {
            for (int i = 0; i < many[book]; i++) {
                if (wheels[WHEELS * book + i] == wheel) {
                    return i;
                }
            }
            return NONE;
        }

        /** Where the WHEELS of both come in b, in the order of a: how many there are. */
        private int setPlaces(int a, int b) {
            int common = 0;
            for (int i = 0; i < many[a]; i++) {
                int place = placeOf(b, wheels[WHEELS * a + i]);
                if (place != NONE) {
                    places[common] = place;
                    common++;
                }
            }
            return common;
        }

        int howManyInOrder(int a, int b) {
            int common = setPlaces(a, b);
            int most = 0;
            for (int i = 0; i < common; i++) {
                longest[i] = 1;
                for (int j = 0; j < i; j++) {
                    if (places[j] < places[i]) {
                        longest[i] = Math.max(longest[i], longest[j] + 1);
                    }
                }
                most = Math.max(most, longest[i]);
            }
            return most;
        }

        int howManyTurned(int a, int b) {
            int common = setPlaces(a, b);
            int pairs = 0;
            for (int i = 0; i < common; i++) {
                for (int j = 0; j < i; j++) {
                    if (places[j] > places[i]) {
                        pairs++;
                    }
                }
            }
            return pairs;
        }
    }

    /** BIRTHS: each WHEEL's part is named by the least number in it. */
    private static final class Births {
        private final int[] part = new int[ALL_WHEELS];

        static boolean areOne(Hands hands, Books books, int wheel, int other, int k) {
            int common = 0;
            for (int wanderer = 0; wanderer < WANDERERS; wanderer++) {
                int a = books.degreeOf(wheel, wanderer);
                int b = books.degreeOf(other, wanderer);
                if (a != NONE && b != NONE) {
                    if (hands.costBeside(a, b) > 1 && hands.costBeside(b, a) > 1) {
                        return false;
                    }
                    common++;
                }
            }
            return common >= k;
        }

        void partBy(Hands hands, Books books, int k) {
            for (int number = 0; number < ALL_WHEELS; number++) {
                part[number] = number;
                for (int other = 0; other < number; other++) {
                    if (part[other] != part[number] && areOne(hands, books, number, other, k)) {
                        join(part[number], part[other], number);
                    }
                }
            }
        }

        private void join(int one, int two, int last) {
            int least = Math.min(one, two);
            for (int number = 0; number <= last; number++) {
                if (part[number] == one || part[number] == two) {
                    part[number] = least;
                }
            }
        }

        int leastOf(int number) {
            return part[number];
        }

        int howManyParts(Books books) {
            int parts = 0;
            for (int number = 0; number < ALL_WHEELS; number++) {
                if (part[number] == number && books.tellsSomething(number)) {
                    parts++;
                }
            }
            return parts;
        }
    }

    /** LIVES and FATES, and how many ways of laying them anew would hit as often. */
    private static final class Outcomes {
        static final int MOST_LAID = 8;
        static final int HIT_COUNTS = 9;

        private final int[] foretold = new int[WHEELS];
        private final int[] came = new int[WHEELS];
        private final int[] houses = new int[WHEELS];
        private final int[] rows = new int[WHEELS];
        private final boolean[] hit = new boolean[MOST_LAID * MOST_LAID];
        private final int[] ways = new int[(1 << MOST_LAID) * HIT_COUNTS];

        Outcomes() {
            Arrays.fill(foretold, NONE);
            Arrays.fill(came, NONE);
            Arrays.fill(houses, NONE);
        }

        void tellLife(int wheel, int yearsForetold, int yearsCame) {
            foretold[wheel] = yearsForetold;
            came[wheel] = yearsCame;
        }

        void tellFate(int wheel, int house) {
            houses[wheel] = house;
        }

        /** The WHEELS of which something is told are laid in rows: how many they are. */
        private int setRows(int[] byWheel) {
            int many = 0;
            for (int wheel = 0; wheel < WHEELS; wheel++) {
                if (byWheel[wheel] != NONE) {
                    rows[many] = wheel;
                    many++;
                }
            }
            return many;
        }

        int howManyLives() {
            return setRows(foretold);
        }

        int howManyFates() {
            return setRows(houses);
        }

        private boolean isHit(int wheel, int yearsCame, int slack) {
            return Math.abs(foretold[wheel] - yearsCame) <= slack;
        }

        int howManyHits(int slack) {
            int many = setRows(foretold);
            int hits = 0;
            for (int i = 0; i < many; i++) {
                if (isHit(rows[i], came[rows[i]], slack)) {
                    hits++;
                }
            }
            return hits;
        }

        int chanceOfLives(int slack) {
            int many = setRows(foretold);
            if (many > MOST_LAID) {
                return NONE;
            }
            for (int i = 0; i < many; i++) {
                for (int j = 0; j < many; j++) {
                    hit[MOST_LAID * i + j] = isHit(rows[i], came[rows[j]], slack);
                }
            }
            return waysToHit(many, howManyHits(slack));
        }

        private static boolean isToldByLot(Books books, int wheel, int house) {
            int lot = books.degreeOf(wheel, LOT);
            int rise = books.degreeOf(wheel, RISE);
            return lot != NONE && rise != NONE && lot / SIGN == (rise / SIGN + house - 1) % SIGNS;
        }

        int howManyToldByLot(Books books) {
            int many = setRows(houses);
            int fates = 0;
            for (int i = 0; i < many; i++) {
                if (isToldByLot(books, rows[i], houses[rows[i]])) {
                    fates++;
                }
            }
            return fates;
        }

        int chanceOfFates(Books books) {
            int many = setRows(houses);
            if (many > MOST_LAID) {
                return NONE;
            }
            for (int i = 0; i < many; i++) {
                for (int j = 0; j < many; j++) {
                    hit[MOST_LAID * i + j] = isToldByLot(books, rows[i], houses[rows[j]]);
                }
            }
            return waysToHit(many, howManyToldByLot(books));
        }

        /** Counted by sets of those already laid, not one by one: 8 can be laid in 40,320 ways. */
        private int waysToHit(int many, int enough) {
            int full = (1 << many) - 1;
            Arrays.fill(ways, 0);
            ways[0] = 1;
            for (int laid = 0; laid < full; laid++) {
                layNext(laid, many);
            }
            int sum = 0;
            for (int hits = enough; hits <= many; hits++) {
                sum += ways[HIT_COUNTS * full + hits];
            }
            return sum;
        }

        private void layNext(int laid, int many) {
            int row = Integer.bitCount(laid);
            for (int j = 0; j < many; j++) {
                if ((laid >> j & 1) == 0) {
                    int more = hit[MOST_LAID * row + j] ? 1 : 0;
                    int then = laid | 1 << j;
                    for (int hits = 0; hits <= row; hits++) {
                        ways[HIT_COUNTS * then + hits + more] += ways[HIT_COUNTS * laid + hits];
                    }
                }
            }
        }
    }
}
