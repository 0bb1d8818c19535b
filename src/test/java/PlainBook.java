import java.util.ArrayList;
import java.util.Arrays;
import java.util.HashMap;
import java.util.List;
import java.util.Map;
import java.util.NoSuchElementException;
import java.util.TreeMap;
import java.util.TreeSet;

/** The document word by word, slow and plain, with the calls of WheelBook's face; OracleTest lays both side by side. */
final class PlainBook {
    static final List<String> NAMES = List.of("sun", "moon", "mercury", "venus", "mars", "jupiter", "saturn", "rise", "lot");

    private StringBuilder tape = new StringBuilder();
    private int faultPlace = -1;
    private int faultKind = 0;
    private int[][] tables = new int[28][];
    private List<int[]> climates = new ArrayList<>();
    private List<int[]> hands = new ArrayList<>();
    private final Map<Integer, Map<Integer, Integer>> wheels = new HashMap<>();
    private List<Integer> bestDays = null;
    private int[] seeking = null;
    private int[] image = null;
    private Map<Integer, Integer> keptTree = null;
    private final List<List<Integer>> leaves = new ArrayList<>();
    private final Map<Integer, int[]> lives = new TreeMap<>();
    private final Map<Integer, Integer> fates = new TreeMap<>();

    PlainBook() {
        for (int i = 0; i < 28; i++) {
            tables[i] = new int[] {0, 0, 0, 1};
        }
        for (int i = 0; i < 6; i++) {
            leaves.add(new ArrayList<>());
        }
    }

    private static void need(boolean there) {
        if (!there) {
            throw new NoSuchElementException();
        }
    }

    private static void allow(boolean fits) {
        if (!fits) {
            throw new IllegalArgumentException();
        }
    }

    private static int wheelNumber(int book, int wheel) {
        need(book >= 0 && book < 6 && wheel >= 0 && wheel < 20);
        return 20 * book + wheel;
    }

    private static void needDay(int day) {
        need(day >= 0 && day <= 1000000);
    }

    private static void needSet(int set) {
        need(set >= 0 && set <= 3);
    }

    private void needClimate(int climate) {
        need(climate >= 0 && climate < climates.size());
    }

    // ---- texts

    int feed(int a, int b, int c, int d, int e) {
        if (tape.length() + 20 > 600) {
            return -1;
        }
        for (int number : new int[] {a, b, c, d, e}) {
            tape.append((char) (number >>> 24)).append((char) (number >>> 16 & 255));
            tape.append((char) (number >>> 8 & 255)).append((char) (number & 255));
        }
        return tape.length();
    }

    /** A TOKEN and where it begins; the last one is empty, at the text's end. */
    record Token(String text, int at) {
        boolean isNumber() {
            return !text.isEmpty() && Character.isDigit(text.charAt(0)) && text.charAt(0) < 128;
        }
    }

    private static List<Token> tokens(String text) {
        List<Token> all = new ArrayList<>();
        java.util.regex.Matcher m = java.util.regex.Pattern.compile("[a-z]+|[0-9]+|[^ \\n]").matcher(text);
        while (m.find()) {
            all.add(new Token(m.group(), m.start()));
        }
        all.add(new Token("", text.length()));
        return all;
    }

    private static final class Fault extends RuntimeException {
        private static final long serialVersionUID = 1;
        final int kind;
        final int at;

        Fault(int kind, Token token) {
            this.kind = kind;
            this.at = token.at();
        }
    }

    private List<Token> left;

    private void takeWord(String word) {
        if (!left.get(0).text().equals(word)) {
            throw new Fault(1, left.get(0));
        }
        left.remove(0);
    }

    private int takeNumber(int least, int most) {
        Token token = left.get(0);
        if (!token.isNumber()) {
            throw new Fault(1, token);
        }
        if (token.text().length() > 7 || Integer.parseInt(token.text()) < least || Integer.parseInt(token.text()) > most) {
            throw new Fault(2, token);
        }
        left.remove(0);
        return Integer.parseInt(token.text());
    }

    private int take(int n) {
        allow(n >= 0 && n <= tape.length());
        left = new ArrayList<>(tokens(tape.substring(0, n)));
        tape = new StringBuilder();
        faultKind = 0;
        faultPlace = -1;
        return n;
    }

    private int fail(Fault f) {
        faultKind = f.kind;
        faultPlace = f.at;
        return faultKind;
    }

    int house(int n) {
        take(n);
        int[][] newTables = tables.clone();
        List<int[]> newClimates = new ArrayList<>(climates);
        List<int[]> newHands = new ArrayList<>(hands);
        try {
            while (left.size() > 1) {
                Token first = left.remove(0);
                switch (first.text()) {
                    case "set" -> readSet(newTables);
                    case "climate" -> readClimate(newClimates, first);
                    case "hand" -> readHand(newHands, first);
                    default -> throw new Fault(1, first);
                }
                takeWord(";");
            }
        } catch (Fault f) {
            return fail(f);
        }
        tables = newTables;
        climates = newClimates;
        hands = newHands;
        return 0;
    }

    private void readSet(int[][] newTables) {
        int set = takeNumber(0, 3);
        Token name = left.get(0);
        int wanderer = NAMES.indexOf(name.text());
        if (wanderer < 0 || wanderer > 6) {
            throw new Fault(1, name);
        }
        left.remove(0);
        takeWord("at");
        int at = takeNumber(0, 21599);
        takeWord("goes");
        int goes = takeNumber(0, 2000000);
        int swing = 0;
        int in = 1;
        if (left.get(0).text().equals("swing")) {
            left.remove(0);
            swing = takeNumber(0, 10800);
            takeWord("in");
            in = takeNumber(2, 1000000);
        }
        newTables[7 * set + wanderer] = new int[] {at, goes, swing, in};
    }

    private void readClimate(List<int[]> newClimates, Token first) {
        if (newClimates.size() == 7) {
            throw new Fault(2, first);
        }
        takeNumber(newClimates.size(), newClimates.size());
        int[] rising = new int[12];
        for (int i = 0; i < 12; i++) {
            Token token = left.get(0);
            rising[i] = takeNumber(1, 9999999);
            if (i == 11 && Arrays.stream(rising).sum() != 3600) {
                throw new Fault(2, token);
            }
        }
        newClimates.add(rising);
    }

    private void readHand(List<int[]> newHands, Token first) {
        if (newHands.size() == 30) {
            throw new Fault(2, first);
        }
        int read = takeNumber(0, 29);
        takeWord("for");
        newHands.add(new int[] {read, takeNumber(0, 29)});
    }

    int wheel(int book, int wheel, int n) {
        int number = wheelNumber(book, wheel);
        take(n);
        Map<Integer, Integer> entries = new HashMap<>();
        try {
            while (left.size() > 1) {
                readEntry(entries);
                takeWord(";");
            }
        } catch (Fault f) {
            return fail(f);
        }
        wheels.put(number, entries);
        return 0;
    }

    private void readEntry(Map<Integer, Integer> entries) {
        Token which = left.remove(0);
        int entry = NAMES.indexOf(which.text());
        if (which.text().equals("date")) {
            entry = 21;
        } else if (which.text().equals("house")) {
            which = left.get(0);
            entry = 8 + takeNumber(1, 12);
        } else if (entry < 0) {
            throw new Fault(1, which);
        }
        if (entries.containsKey(entry)) {
            throw new Fault(3, which);
        }
        int major = takeNumber(0, entry == 21 ? 12 : 11);
        int minor = takeNumber(0, entry == 21 && major == 12 ? 4 : 29);
        entries.put(entry, 30 * major + minor);
    }

    int fault() {
        return faultPlace;
    }

    private int told(int number, int entry) {
        return wheels.getOrDefault(number, Map.of()).getOrDefault(entry, -1);
    }

    private boolean tells(int number) {
        return !wheels.getOrDefault(number, Map.of()).isEmpty();
    }

    int count(int what) {
        need(what >= 0 && what <= 5);
        int wheelsTold = 0;
        for (int number = 0; number < 120; number++) {
            wheelsTold += tells(number) ? 1 : 0;
        }
        return new int[] {climates.size(), hands.size(), wheelsTold, lives.size(), tape.length(), fates.size()}[what];
    }

    // ---- skies

    int place(int set, int wanderer, int day) {
        needSet(set);
        need(wanderer >= 0 && wanderer < 7);
        needDay(day);
        int[] t = tables[7 * set + wanderer];
        long x = day % t[3];
        long differ = 2 * x > t[3] ? 2 * x - t[3] : t[3] - 2 * x;
        long swing = (long) Math.floor((double) ((2 * differ - t[3]) * t[2]) / t[3]);
        return (int) ((((t[0] + (long) t[1] * day / 1000 + swing) % 21600) + 21600) % 21600);
    }

    int entry(int book, int wheel, int entry) {
        int number = wheelNumber(book, wheel);
        need(entry >= 0 && entry < 22);
        return told(number, entry);
    }

    private boolean isHand(int read, int stood) {
        return hands.stream().anyMatch(h -> h[0] == read && h[1] == stood);
    }

    private int kindBeside(int read, int stood) {
        if (read == stood) {
            return 0;
        }
        if (read / 30 == stood / 30 && isHand(read % 30, stood % 30)) {
            return 1;
        }
        return read % 30 == stood % 30 && isHand(read / 30, stood / 30) ? 2 : 9;
    }

    private int costBeside(int read, int stood) {
        return new int[] {0, 1, 1, 0, 0, 0, 0, 0, 0, 9}[kindBeside(read, stood)];
    }

    int cost(int book, int wheel, int set, int day) {
        int number = wheelNumber(book, wheel);
        needSet(set);
        needDay(day);
        int cost = 0;
        for (int w = 0; w < 7; w++) {
            if (told(number, w) >= 0) {
                cost += costBeside(told(number, w), place(set, w, day) / 60);
            }
        }
        return told(number, 21) >= 0 && told(number, 21) != day % 365 ? cost + 30 : cost;
    }

    private static void allowSpan(int from, int further) {
        allow(further >= 0 && further <= 50000 && (long) from + further <= 1000000);
    }

    private int leastCost(int book, int wheel, int set, int from, int further, List<Integer> days) {
        int least = Integer.MAX_VALUE;
        for (int day = from; day <= from + further; day++) {
            int cost = cost(book, wheel, set, day);
            if (cost < least) {
                days.clear();
                least = cost;
            }
            if (cost == least) {
                days.add(day);
            }
        }
        return least;
    }

    int best(int book, int wheel, int set, int from, int further) {
        wheelNumber(book, wheel);
        needSet(set);
        needDay(from);
        allowSpan(from, further);
        bestDays = new ArrayList<>();
        return leastCost(book, wheel, set, from, further, bestDays);
    }

    int day(int i) {
        need(bestDays != null);
        if (i == -1) {
            return bestDays.size();
        }
        need(i >= 0 && i < bestDays.size() && i < 20);
        return bestDays.get(i);
    }

    int whose(int book, int wheel, int from, int further, int what) {
        wheelNumber(book, wheel);
        needDay(from);
        need(what >= 0 && what <= 2);
        allowSpan(from, further);
        int[] costs = new int[4];
        for (int set = 0; set < 4; set++) {
            costs[set] = leastCost(book, wheel, set, from, further, new ArrayList<>());
        }
        int least = Arrays.stream(costs).min().getAsInt();
        if (what == 2) {
            return (int) Arrays.stream(costs).filter(c -> c == least).count();
        }
        int set = 0;
        while (costs[set] != least) {
            set++;
        }
        return what == 0 ? set : least;
    }

    int mixed(int book, int wheel, int from, int further) {
        int number = wheelNumber(book, wheel);
        needDay(from);
        allowSpan(from, further);
        int mixed = 0;
        for (int day = from; day <= from + further; day++) {
            boolean eachBySome = true;
            boolean[] allBy = {true, true, true, true};
            for (int w = 0; w < 7; w++) {
                if (told(number, w) >= 0) {
                    boolean some = false;
                    for (int set = 0; set < 4; set++) {
                        boolean at = place(set, w, day) / 60 == told(number, w);
                        some |= at;
                        allBy[set] &= at;
                    }
                    eachBySome &= some;
                }
            }
            mixed += eachBySome && !allBy[0] && !allBy[1] && !allBy[2] && !allBy[3] ? 1 : 0;
        }
        return mixed;
    }

    int misread(int book, int wheel, int set, int day, int wanderer) {
        int number = wheelNumber(book, wheel);
        int stood = place(set, wanderer, day) / 60;
        return told(number, wanderer) < 0 ? -1 : kindBeside(told(number, wanderer), stood);
    }

    int errors(int book, int wheel, int day, int what) {
        int number = wheelNumber(book, wheel);
        needDay(day);
        need(what >= 0 && what <= 10);
        int[] answers = new int[11];
        for (int w = 0; w < 7; w++) {
            int read = told(number, w);
            if (read >= 0 && place(0, w, day) / 60 != read) {
                answers[0]++;
                List<Integer> sharers = new ArrayList<>();
                for (int set = 1; set <= 3; set++) {
                    if (place(set, w, day) / 60 == read) {
                        sharers.add(set);
                    }
                }
                for (int set : sharers) {
                    answers[1 + set]++;
                    answers[4 + set] += sharers.size() == 1 ? 1 : 0;
                    answers[7 + set] += 6 / sharers.size();
                }
            }
        }
        int most = Math.max(answers[8], Math.max(answers[9], answers[10]));
        answers[1] = most == 0 ? -1 : answers[8] == most ? 1 : answers[9] == most ? 2 : 3;
        return answers[what];
    }

    // ---- the SEARCH: BOOK, WHEEL, SET, next DAY, least, how many, first, latest

    void seek(int book, int wheel, int set, int from) {
        wheelNumber(book, wheel);
        needSet(set);
        needDay(from);
        seeking = new int[] {book, wheel, set, from, -1, 0, -1, -1};
    }

    int on(int days) {
        need(seeking != null);
        allow(days >= 0 && days <= 50000);
        int gone = 0;
        for (; gone < days && seeking[3] <= 1000000; gone++) {
            int day = seeking[3]++;
            int cost = cost(seeking[0], seeking[1], seeking[2], day);
            if (seeking[5] == 0 || cost < seeking[4]) {
                seeking[4] = cost;
                seeking[5] = 0;
                seeking[6] = day;
            }
            if (cost == seeking[4]) {
                seeking[5]++;
                seeking[7] = day;
            }
        }
        return gone;
    }

    int held(int what) {
        need(seeking != null && what >= 0 && what <= 4);
        return seeking[3 + what];
    }

    boolean image() {
        if (seeking == null) {
            return false;
        }
        image = seeking.clone();
        return true;
    }

    boolean restore() {
        if (image == null) {
            return false;
        }
        seeking = image.clone();
        return true;
    }

    // ---- climates

    int climb(int climate, int place) {
        needClimate(climate);
        need(place >= 0 && place < 21600);
        int climb = 0;
        for (int sign = 0; sign < place / 1800; sign++) {
            climb += 1800 * climates.get(climate)[sign];
        }
        return climb + climates.get(climate)[place / 1800] * (place % 1800);
    }

    private int placeOf(int climate, int climb) {
        int low = 0;
        int high = 21600;
        while (high - low > 1) {
            int between = (low + high) / 2;
            if (climb(climate, between) <= climb) {
                low = between;
            } else {
                high = between;
            }
        }
        return low;
    }

    int rise(int climate, int sun, int time) {
        need(time >= 0 && time < 360);
        return placeOf(climate, (climb(climate, sun) + 18000 * time) % 6480000);
    }

    int middle(int climate, int place) {
        return placeOf(0, (climb(climate, place) + 6480000 - 1620000) % 6480000);
    }

    private List<Integer> hours(int number) {
        List<Integer> hours = new ArrayList<>();
        for (int climate = 0; climate < climates.size(); climate++) {
            for (int time = 0; time < 360; time++) {
                if (rise(climate, 60 * told(number, 0), time) / 60 == told(number, 7)) {
                    hours.add(360 * climate + time);
                }
            }
        }
        return hours;
    }

    int hour(int book, int wheel, int i) {
        int number = wheelNumber(book, wheel);
        boolean known = told(number, 0) >= 0 && told(number, 7) >= 0;
        if (i == -1) {
            return known ? hours(number).size() : -1;
        }
        need(known && i >= 0 && i < hours(number).size());
        return hours(number).get(i);
    }

    int houseOf(int degree, int way, int climate, int house) {
        need(degree >= 0 && degree < 360 && way >= 0 && way <= 2 && house >= 1 && house <= 12);
        if (way == 0) {
            return (degree / 30 + house - 1) % 12 * 30;
        }
        if (way == 1) {
            return (degree + 30 * house - 30) % 360;
        }
        needClimate(climate);
        int m = middle(climate, 60 * degree) / 60;
        int[] h = new int[13];
        h[1] = degree;
        h[10] = m;
        h[7] = degree + 180;
        h[4] = m + 180;
        int upper = (degree - m + 360) % 360;
        int lower = (m + 180 - degree + 720) % 360;
        h[11] = m + upper / 3;
        h[12] = m + upper * 2 / 3;
        h[2] = degree + lower / 3;
        h[3] = degree + lower * 2 / 3;
        h[5] = h[11] + 180;
        h[6] = h[12] + 180;
        h[8] = h[2] + 180;
        h[9] = h[3] + 180;
        return h[house] % 360;
    }

    int agree(int book, int wheel, int way, int climate) {
        int number = wheelNumber(book, wheel);
        houseOf(0, way, climate, 1);
        if (told(number, 7) < 0) {
            return -1;
        }
        int agree = 0;
        for (int house = 1; house <= 12; house++) {
            agree += told(number, 8 + house) == houseOf(told(number, 7), way, climate, house) ? 1 : 0;
        }
        return agree;
    }

    int possible(int book, int wheel, int what) {
        int number = wheelNumber(book, wheel);
        need(what == 0 || what == 1);
        if (told(number, 7) < 0 || what == 1 && told(number, 0) < 0) {
            return -1;
        }
        int houses = 0;
        for (int house = 1; house <= 12; house++) {
            houses += told(number, 8 + house) >= 0 ? 1 : 0;
        }
        int ways = (agree(book, wheel, 0, 0) == houses ? 1 : 0) + (agree(book, wheel, 1, 0) == houses ? 2 : 0);
        int byClimates = 0;
        for (int climate = 0; climate < climates.size(); climate++) {
            if (agree(book, wheel, 2, climate) == houses) {
                ways |= 4;
                int c = climate;
                if (what == 1 && hours(number).stream().anyMatch(h -> h / 360 == c)) {
                    byClimates |= 1 << climate;
                }
            }
        }
        return what == 0 ? ways : byClimates;
    }

    int lot(int book, int wheel, int what) {
        int number = wheelNumber(book, wheel);
        need(what == 0 || what == 1);
        int sun = told(number, 0);
        int moon = told(number, 1);
        int rise = told(number, 7);
        if (sun < 0 || moon < 0 || rise < 0 || what == 1 && told(number, 8) < 0) {
            return -1;
        }
        boolean up = (rise - sun + 360) % 360 < 180;
        int lot = ((up ? rise + moon - sun : rise + sun - moon) + 720) % 360;
        return what == 0 ? lot : costBeside(told(number, 8), lot);
    }

    // ---- copies

    private static void needBook(int book) {
        need(book >= 0 && book < 6);
    }

    int price(int from, int copy) {
        needBook(from);
        needBook(copy);
        int price = 0;
        for (int i = 0; i < 20 * 22; i++) {
            int entry = i % 22;
            int other = told(20 * from + i / 22, entry);
            int own = told(20 * copy + i / 22, entry);
            if (other == own) {
                price += 0;
            } else if (own < 0 || other >= 0 && entry < 21 && costBeside(own, other) == 1) {
                price += 1;
            } else {
                price += other < 0 ? 4 : 3;
            }
        }
        return price;
    }

    int tree() {
        List<Integer> in = new ArrayList<>();
        for (int book = 0; book < 6; book++) {
            boolean some = false;
            for (int wheel = 0; wheel < 20; wheel++) {
                some |= tells(20 * book + wheel);
            }
            if (some) {
                in.add(book);
            }
        }
        if (in.isEmpty()) {
            return -1;
        }
        int[][] prices = new int[6][6];
        for (int from : in) {
            for (int copy : in) {
                prices[from][copy] = price(from, copy);
            }
        }
        int rows = (int) Math.round(Math.pow(in.size() + 1, in.size()));
        int least = Integer.MAX_VALUE;
        for (int code = 0; code < rows; code++) {
            Map<Integer, Integer> row = row(in, code);
            if (isTree(row)) {
                int sum = 0;
                for (int book : in) {
                    sum += row.get(book) < 0 ? 0 : prices[row.get(book)][book];
                }
                if (sum < least) {
                    least = sum;
                    keptTree = row;
                }
            }
        }
        return least;
    }

    /** The code's digits, the highest for the first BOOK: 0 NONE, then the BOOKS in their order. */
    private static Map<Integer, Integer> row(List<Integer> in, int code) {
        Map<Integer, Integer> row = new TreeMap<>();
        int rest = code;
        for (int i = in.size() - 1; i >= 0; i--) {
            int digit = rest % (in.size() + 1);
            rest /= in.size() + 1;
            row.put(in.get(i), digit == 0 ? -1 : in.get(digit - 1));
        }
        return row;
    }

    private static boolean isTree(Map<Integer, Integer> row) {
        int first = 0;
        for (int book : row.keySet()) {
            first += row.get(book) < 0 ? 1 : 0;
            int at = book;
            for (int i = 0; i < 7 && at >= 0; i++) {
                at = row.get(at);
            }
            if (at >= 0) {
                return false;
            }
        }
        return first == 1;
    }

    int whence(int book) {
        needBook(book);
        need(keptTree != null && keptTree.containsKey(book));
        return keptTree.get(book);
    }

    int slips(int read, int stood) {
        need(read >= 0 && read < 30 && stood >= 0 && stood < 30 && keptTree != null);
        int slips = 0;
        for (int book : keptTree.keySet()) {
            for (int i = 0; i < 20 * 21 && keptTree.get(book) >= 0; i++) {
                int own = told(20 * book + i / 21, i % 21);
                int other = told(20 * keptTree.get(book) + i / 21, i % 21);
                if (own >= 0 && other >= 0 && costBeside(own, other) == 1) {
                    boolean degree = own / 30 == other / 30;
                    boolean that = degree ? own % 30 == read && other % 30 == stood : own / 30 == read && other / 30 == stood;
                    slips += that ? 1 : 0;
                }
            }
        }
        return slips;
    }

    int handed(int a, int b, int c) {
        needBook(a);
        needBook(b);
        needBook(c);
        int handed = 0;
        for (int i = 0; i < 20 * 22; i++) {
            int x = told(20 * a + i / 22, i % 22);
            int y = told(20 * b + i / 22, i % 22);
            int z = told(20 * c + i / 22, i % 22);
            handed += x >= 0 && y >= 0 && z >= 0 && x == y && z != x ? 1 : 0;
        }
        return handed;
    }

    int leaf(int book, int wheel) {
        wheelNumber(book, wheel);
        if (leaves.get(book).contains(wheel)) {
            return -1;
        }
        leaves.get(book).add(wheel);
        return leaves.get(book).size();
    }

    int order(int a, int b, int what) {
        needBook(a);
        needBook(b);
        need(what == 0 || what == 1);
        List<Integer> p = leaves.get(a);
        List<Integer> q = leaves.get(b);
        if (what == 1) {
            int turned = 0;
            for (int x : p) {
                for (int y : p) {
                    boolean both = q.contains(x) && q.contains(y);
                    turned += both && p.indexOf(x) < p.indexOf(y) && q.indexOf(x) > q.indexOf(y) ? 1 : 0;
                }
            }
            return turned;
        }
        int[][] most = new int[p.size() + 1][q.size() + 1];
        for (int i = 1; i <= p.size(); i++) {
            for (int j = 1; j <= q.size(); j++) {
                boolean alike = p.get(i - 1).equals(q.get(j - 1));
                most[i][j] = alike ? most[i - 1][j - 1] + 1 : Math.max(most[i - 1][j], most[i][j - 1]);
            }
        }
        return most[p.size()][q.size()];
    }

    boolean same(int wheel, int other, int k) {
        need(wheel >= 0 && wheel < 120 && other >= 0 && other < 120 && k >= 1 && k <= 7);
        int common = 0;
        for (int w = 0; w < 7; w++) {
            int a = told(wheel, w);
            int b = told(other, w);
            if (a >= 0 && b >= 0) {
                common++;
                if (Math.min(costBeside(a, b), costBeside(b, a)) > 1) {
                    return false;
                }
            }
        }
        return common >= k;
    }

    int births(int wheel, int k) {
        need(wheel >= -1 && wheel < 120 && k >= 1 && k <= 7);
        if (wheel >= 0) {
            return together(wheel, k).first();
        }
        int parts = 0;
        for (int number = 0; number < 120; number++) {
            parts += tells(number) && together(number, k).first() == number ? 1 : 0;
        }
        return parts;
    }

    private TreeSet<Integer> together(int wheel, int k) {
        TreeSet<Integer> part = new TreeSet<>(List.of(wheel));
        List<Integer> open = new ArrayList<>(part);
        while (!open.isEmpty()) {
            int at = open.remove(0);
            for (int other = 0; other < 120; other++) {
                if (tells(at) && tells(other) && same(at, other, k) && part.add(other)) {
                    open.add(other);
                }
            }
        }
        return part;
    }

    // ---- outcomes

    boolean life(int wheel, int foretold, int came) {
        need(wheel >= 0 && wheel < 20);
        if (foretold < 0 || foretold > 120 || came < 0 || came > 120) {
            return false;
        }
        lives.put(wheel, new int[] {foretold, came});
        return true;
    }

    boolean fate(int wheel, int house) {
        need(wheel >= 0 && wheel < 20);
        if (house < 1 || house > 12) {
            return false;
        }
        fates.put(wheel, house);
        return true;
    }

    int fates(int what) {
        need(what == 0 || what == 1);
        List<Integer> wheelsOf = new ArrayList<>(fates.keySet());
        boolean[][] hit = new boolean[wheelsOf.size()][wheelsOf.size()];
        for (int i = 0; i < hit.length; i++) {
            for (int j = 0; j < hit.length; j++) {
                int lot = told(wheelsOf.get(i), 8);
                int rise = told(wheelsOf.get(i), 7);
                hit[i][j] = lot >= 0 && rise >= 0 && lot / 30 == houseOf(rise, 0, 0, fates.get(wheelsOf.get(j))) / 30;
            }
        }
        return hitsOrChance(what, hit);
    }

    int hits(int what, int slack) {
        need((what == 0 || what == 1) && slack >= 0 && slack <= 120);
        List<int[]> all = new ArrayList<>(lives.values());
        boolean[][] hit = new boolean[all.size()][all.size()];
        for (int i = 0; i < hit.length; i++) {
            for (int j = 0; j < hit.length; j++) {
                hit[i][j] = Math.abs(all.get(i)[0] - all.get(j)[1]) <= slack;
            }
        }
        return hitsOrChance(what, hit);
    }

    private static int hitsOrChance(int what, boolean[][] hit) {
        int hits = 0;
        for (int i = 0; i < hit.length; i++) {
            hits += hit[i][i] ? 1 : 0;
        }
        if (what == 0) {
            return hits;
        }
        return hit.length > 8 ? -1 : ways(hit, 0, new boolean[hit.length], 0, hits);
    }

    private static int ways(boolean[][] hit, int row, boolean[] laid, int hits, int enough) {
        if (row == hit.length) {
            return hits >= enough ? 1 : 0;
        }
        int ways = 0;
        for (int j = 0; j < hit.length; j++) {
            if (!laid[j]) {
                laid[j] = true;
                ways += ways(hit, row + 1, laid, hits + (hit[row][j] ? 1 : 0), enough);
                laid[j] = false;
            }
        }
        return ways;
    }
}
