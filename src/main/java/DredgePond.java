/** A dredge in its own pond: the promises of ../shared/DOC.md, whose words the comments here use. */
public final class DredgePond {
    public static final int NONE = -1;

    private static final int NO_PATH = -100000000;
    private static final int MOST_TIN = 1000;
    private static final int LAST_DAY = 600;
    private static final int MONTH_DAYS = 30;

    private final Ground ground;
    private final Trail trail;
    private final Route route;
    private final Pond pond = new Pond();
    private final Bag bag = new Bag();
    private final LawBook laws = new LawBook();
    private final LawReader reader = new LawReader();
    private int today = 0;
    private int fines = 0;
    private int latestFault = NONE;

    public DredgePond(int rows, int places) {
        int heldRows = Math.max(2, Math.min(20, rows));
        int heldPlaces = Math.max(2, Math.min(8, places));
        ground = new Ground(heldRows, heldPlaces);
        trail = new Trail(heldRows);
        route = new Route(heldRows, heldPlaces);
    }

    public boolean depth(int row, int place, int depth) {
        if (!isUndug(row, place) || !within(depth, 1, 9)) {
            return false;
        }
        ground.deepen(row, place, depth);
        return true;
    }

    public boolean grade(int g) {
        if (!within(g, 0, 200) && g != Ground.NO_GRADE) {
            return false;
        }
        ground.slope(g);
        return true;
    }

    public boolean bore(int row, int place, int tin) {
        if (!isUndug(row, place) || !within(tin, 0, MOST_TIN)) {
            return false;
        }
        ground.tell(row, place, tin);
        return true;
    }

    public int square(int row, int place, int what) {
        if (!ground.has(row, place)) {
            return NONE;
        }
        switch (what) {
            case 0: return ground.depthAt(row, place);
            case 1: return ground.leastAt(row, place);
            case 2: return ground.greatestAt(row, place);
            case 3: return oneIf(ground.quarrelsAt(row, place));
            case 4: return oneIf(trail.isDug(row, place));
            case 5: return oneIf(trail.isLaidBack(row, place));
            case 6: return oneIf(ground.isTold(row, place));
            default: return NONE;
        }
    }

    public boolean cost(int c) {
        if (!within(c, 0, 1000)) {
            return false;
        }
        route.charge(c);
        return true;
    }

    public int path(int way, int k) {
        int first = trail.nextRow();
        int left = ground.rowCount() - first;
        if (!within(way, 0, 2) || left <= 0 || k < NONE || k >= left) {
            return NO_PATH;
        }
        route.weigh(ground, way, first);
        int place = route.startPlace(first, trail.dredgePlace());
        if (k == NONE) {
            return route.sumFrom(first, place);
        }
        for (int i = 1; i <= k; i++) {
            place = route.bestBeside(first + i, place);
        }
        return place;
    }

    public int next() {
        return ground.widestFrom(trail.nextRow());
    }

    public int bars(int place) {
        int row = trail.nextRow();
        if (!ground.has(row, place) || !trail.reaches(place)) {
            return 1;
        }
        if (!within(pond.level(), lawToday(LawBook.LEAST), lawToday(LawBook.GREATEST))) {
            return 2;
        }
        int deep = ground.depthAt(row, place);
        if (bankAhead(deep) > lawToday(LawBook.BANK)) {
            return 3;
        }
        if (pond.hoursLeft() < Pond.hoursFor(deep)) {
            return 4;
        }
        return isMuddy() ? 5 : 0;
    }

    public int dig(int place, int tin) {
        if (!within(tin, 0, MOST_TIN) || bars(place) != 0) {
            return NONE;
        }
        int row = trail.nextRow();
        int deep = ground.depthAt(row, place);
        ground.tell(row, place, tin);
        trail.goTo(place, today);
        pond.stir(deep);
        return bag.fill(deep * tin, today / MONTH_DAYS);
    }

    public boolean jig(int speed) {
        if (!within(speed, 0, 9)) {
            return false;
        }
        bag.run(speed);
        return true;
    }

    public int let(int much) {
        if (!within(much, 1, pond.level())) {
            return NONE;
        }
        if (isMuddy()) {
            fines += lawToday(LawBook.FINE);
        }
        pond.drain(much);
        return pond.level();
    }

    public int day(int water) {
        if (!within(water, 0, 200) || today >= LAST_DAY) {
            return NONE;
        }
        // the DAY that goes by is still TODAY when what was dug long ago is fined
        fines += trail.fineAll(today - lawToday(LawBook.BACK)) * lawToday(LawBook.FINE);
        pond.passNight(water);
        today++;
        return today;
    }

    public boolean back(int row, int place) {
        return trail.layBack(row, place);
    }

    public int feed(int a, int b, int c, int d, int e) {
        if (!reader.hasRoom()) {
            return NONE;
        }
        reader.append(a);
        reader.append(b);
        reader.append(c);
        reader.append(d);
        reader.append(e);
        return reader.size();
    }

    public int law(int n) {
        if (!within(n, 0, reader.size())) {
            return -2;
        }
        if (laws.isFull()) {
            return -3;
        }
        latestFault = reader.read(n);
        return latestFault == NONE ? laws.take(reader, today) : NONE;
    }

    public int fault() {
        return latestFault;
    }

    public int tells(int day, int what) {
        if (!within(day, 0, LAST_DAY)) {
            return NONE;
        }
        return what == LawBook.NUMBER ? laws.inForce(day) : laws.term(day, what);
    }

    public int month(int month, int what) {
        if (!within(month, 0, LAST_DAY / MONTH_DAYS)) {
            return NONE;
        }
        int bagged = bag.inMonth(month);
        switch (what) {
            case 0: return bagged;
            // at most 20 ROWS of 9,000 by 9,999: that stays within an int
            case 1: return bagged * laws.term(month * MONTH_DAYS + MONTH_DAYS - 1, LawBook.ROYALTY) / 1000;
            default: return NONE;
        }
    }

    public int count(int what) {
        switch (what) {
            case 0: return today;
            case 1: return trail.dredgeRow();
            case 2: return trail.dredgePlace();
            case 3: return pond.hoursLeft();
            case 4: return pond.level();
            case 5: return pond.mud();
            case 6: return bag.inAll();
            case 7: return bag.lost();
            case 8: return fines;
            case 9: return trail.laidBackCount();
            case 10: return ground.quarrels();
            case 11: return laws.size();
            case 12: return reader.size();
            default: return NONE;
        }
    }

    private static boolean within(int number, int least, int greatest) {
        return number >= least && number <= greatest;
    }

    private static int oneIf(boolean holds) {
        return holds ? 1 : 0;
    }

    private boolean isUndug(int row, int place) {
        return ground.has(row, place) && !trail.isDug(row, place);
    }

    private int lawToday(int what) {
        return laws.term(today, what);
    }

    private boolean isMuddy() {
        return pond.mud() > lawToday(LawBook.CLEAR);
    }

    /** How far a DEPTH is from that of the SQUARE where the DREDGE is; ahead of the first there is no bank. */
    private int bankAhead(int deep) {
        int row = trail.dredgeRow();
        int place = trail.dredgePlace();
        if (!ground.has(row, place)) {
            return 0;
        }
        return Math.abs(deep - ground.depthAt(row, place));
    }

    /** The SQUARES: their DEPTHS, what is told of their TIN, and their SPANS. */
    private static final class Ground {
        static final int NO_GRADE = 1000;

        private final int rows;
        private final int places;
        private final int[] depths;
        private final int[] tins;
        private final int[] least;
        private final int[] greatest;
        private int gradient = NO_GRADE;

        Ground(int rows, int places) {
            this.rows = rows;
            this.places = places;
            int squares = rows * places;
            depths = new int[squares];
            tins = new int[squares];
            least = new int[squares];
            greatest = new int[squares];
            for (int i = 0; i < squares; i++) {
                depths[i] = 3;
                tins[i] = NONE;
                greatest[i] = MOST_TIN;
            }
        }

        int rowCount() {
            return rows;
        }

        boolean has(int row, int place) {
            return within(row, 0, rows - 1) && within(place, 0, places - 1);
        }

        // The methods below that take a ROW and a PLACE are for SQUARES that has() has looked at.

        int depthAt(int row, int place) {
            return depths[row * places + place];
        }

        void deepen(int row, int place, int depth) {
            depths[row * places + place] = depth;
        }

        boolean isTold(int row, int place) {
            return tins[row * places + place] != NONE;
        }

        void tell(int row, int place, int tin) {
            tins[row * places + place] = tin;
            narrowAll();
        }

        void slope(int g) {
            gradient = g;
            narrowAll();
        }

        int leastAt(int row, int place) {
            return least[row * places + place];
        }

        int greatestAt(int row, int place) {
            return greatest[row * places + place];
        }

        boolean quarrelsAt(int row, int place) {
            return leastAt(row, place) > greatestAt(row, place);
        }

        int quarrels() {
            int found = 0;
            for (int i = 0; i < least.length; i++) {
                if (least[i] > greatest[i]) {
                    found++;
                }
            }
            return found;
        }

        /** 8 times the ROW and the PLACE of the SQUARE not told with the widest SPAN, from a ROW on. */
        int widestFrom(int first) {
            int found = NONE;
            int widest = 0;
            for (int row = first; row < rows; row++) {
                for (int place = 0; place < places; place++) {
                    if (isTold(row, place)) {
                        continue;
                    }
                    // below 0 where the SQUARE is in QUARREL: still the widest if there is no other
                    int width = greatestAt(row, place) - leastAt(row, place);
                    if (found == NONE || width > widest) {
                        found = 8 * row + place;
                        widest = width;
                    }
                }
            }
            return found;
        }

        private void narrowAll() {
            openSpans();
            // Two sweeps are enough: between any two SQUARES there is a shortest way whose steps down
            // and right all come ahead of those up and left.
            sweepDown();
            sweepUp();
            closeToldSpans();
        }

        private void openSpans() {
            for (int i = 0; i < tins.length; i++) {
                boolean told = tins[i] != NONE;
                least[i] = told ? tins[i] : 0;
                greatest[i] = told ? tins[i] : MOST_TIN;
            }
        }

        private void sweepDown() {
            for (int row = 0; row < rows; row++) {
                for (int place = 0; place < places; place++) {
                    int i = row * places + place;
                    if (row > 0) {
                        narrow(i, i - places);
                    }
                    if (place > 0) {
                        narrow(i, i - 1);
                    }
                }
            }
        }

        private void sweepUp() {
            for (int row = rows - 1; row >= 0; row--) {
                for (int place = places - 1; place >= 0; place--) {
                    int i = row * places + place;
                    if (row < rows - 1) {
                        narrow(i, i + places);
                    }
                    if (place < places - 1) {
                        narrow(i, i + 1);
                    }
                }
            }
        }

        private void narrow(int i, int beside) {
            least[i] = Math.max(least[i], least[beside] - gradient);
            greatest[i] = Math.min(greatest[i], greatest[beside] + gradient);
        }

        /** What is told of a SQUARE itself goes above what the others say of it. */
        private void closeToldSpans() {
            for (int i = 0; i < tins.length; i++) {
                if (tins[i] != NONE) {
                    least[i] = tins[i];
                    greatest[i] = tins[i];
                }
            }
        }
    }

    /** The PATH that is worth most: for each SQUARE, the greatest sum from it to the last ROW. */
    private static final class Route {
        private final int rows;
        private final int places;
        private final int[] sums;
        private int price = 100;

        Route(int rows, int places) {
            this.rows = rows;
            this.places = places;
            sums = new int[rows * places];
        }

        void charge(int c) {
            price = c;
        }

        void weigh(Ground ground, int way, int first) {
            for (int row = rows - 1; row >= first; row--) {
                for (int place = 0; place < places; place++) {
                    int sum = ground.depthAt(row, place) * (tinBy(ground, way, row, place) - price);
                    if (row < rows - 1) {
                        sum += sumFrom(row + 1, bestBeside(row + 1, place));
                    }
                    sums[row * places + place] = sum;
                }
            }
        }

        int sumFrom(int row, int place) {
            return sums[row * places + place];
        }

        int startPlace(int row, int dredgePlace) {
            return dredgePlace == NONE ? bestOf(row, 0, places - 1) : bestBeside(row, dredgePlace);
        }

        int bestBeside(int row, int place) {
            return bestOf(row, Math.max(0, place - 1), Math.min(places - 1, place + 1));
        }

        /** The least of the PLACES from which the sum is greatest. */
        private int bestOf(int row, int from, int to) {
            int best = from;
            for (int place = from + 1; place <= to; place++) {
                if (sumFrom(row, place) > sumFrom(row, best)) {
                    best = place;
                }
            }
            return best;
        }

        private static int tinBy(Ground ground, int way, int row, int place) {
            switch (way) {
                case 0: return ground.leastAt(row, place);
                case 1: return ground.greatestAt(row, place);
                default: return (ground.leastAt(row, place) + ground.greatestAt(row, place)) / 2;
            }
        }
    }

    /** The SQUARES dug: one in each ROW, from ROW 0 to where the DREDGE is. */
    private static final class Trail {
        private static final int NEAREST_BACK = 3;

        private final int[] placeOf;
        private final int[] dayOf;
        private final boolean[] laidBack;
        private final boolean[] fined;
        private int dug = 0;
        private int laidBacks = 0;

        Trail(int rows) {
            placeOf = new int[rows];
            dayOf = new int[rows];
            laidBack = new boolean[rows];
            fined = new boolean[rows];
        }

        int nextRow() {
            return dug;
        }

        int dredgeRow() {
            return dug > 0 ? dug - 1 : NONE;
        }

        int dredgePlace() {
            return dug > 0 ? placeOf[dug - 1] : NONE;
        }

        /** Whether a PLACE of the ground is at most 1 beside the one ahead. */
        boolean reaches(int place) {
            return dug == 0 || Math.abs(place - dredgePlace()) <= 1;
        }

        boolean isDug(int row, int place) {
            return within(row, 0, dug - 1) && placeOf[row] == place;
        }

        boolean isLaidBack(int row, int place) {
            return isDug(row, place) && laidBack[row];
        }

        int laidBackCount() {
            return laidBacks;
        }

        void goTo(int place, int day) {
            if (dug < placeOf.length) {
                placeOf[dug] = place;
                dayOf[dug] = day;
                dug++;
            }
        }

        boolean layBack(int row, int place) {
            if (!isDug(row, place) || laidBack[row] || dredgeRow() - row < NEAREST_BACK) {
                return false;
            }
            laidBack[row] = true;
            laidBacks++;
            return true;
        }

        /** How many SQUARES are fined now for being open since before a DAY. */
        int fineAll(int day) {
            int found = 0;
            for (int row = 0; row < dug; row++) {
                if (dayOf[row] < day && !laidBack[row] && !fined[row]) {
                    fined[row] = true;
                    found++;
                }
            }
            return found;
        }
    }

    /** THE POND's water and mud, and the HOURS of TODAY. */
    private static final class Pond {
        private static final int DAY_HOURS = 20;
        private static final int MOST_LEVEL = 1000;

        private int height = 100;
        private int dirt = 0;
        private int hours = DAY_HOURS;

        static int hoursFor(int deep) {
            return 2 * deep;
        }

        int level() {
            return height;
        }

        int mud() {
            return dirt;
        }

        int hoursLeft() {
            return hours;
        }

        void stir(int deep) {
            hours -= hoursFor(deep);
            dirt += 3 * deep;
        }

        void drain(int much) {
            height -= much;
        }

        void passNight(int water) {
            height = Math.max(0, Math.min(MOST_LEVEL, height + water - 3));
            dirt = Math.max(0, dirt - 10);
            hours = DAY_HOURS;
        }
    }

    /** What is BAGGED behind the jig, and what the jig loses. */
    private static final class Bag {
        private final int[] months = new int[LAST_DAY / MONTH_DAYS + 1];
        private int whole = 0;
        private int gone = 0;
        private int pace = 3;

        void run(int speed) {
            pace = speed;
        }

        int fill(int tin, int month) {
            int loss = tin * (pace * pace / 2) / 100;
            int rest = tin - loss;
            gone += loss;
            whole += rest;
            if (within(month, 0, months.length - 1)) {
                months[month] += rest;
            }
            return rest;
        }

        int inMonth(int month) {
            return within(month, 0, months.length - 1) ? months[month] : 0;
        }

        int inAll() {
            return whole;
        }

        int lost() {
            return gone;
        }
    }

    /** THE LAWS taken, in their order, with the DAY from which each is in force. */
    private static final class LawBook {
        static final int LEAST = 0;
        static final int GREATEST = 1;
        static final int BANK = 2;
        static final int CLEAR = 3;
        static final int BACK = 4;
        static final int ROYALTY = 5;
        static final int FINE = 6;
        static final int TERMS = 7;
        /** Not a term that a law tells: what tells() calls its number. */
        static final int NUMBER = 7;

        private static final int MOST_LAWS = 10;
        private static final int[] USUAL = {50, 200, 9, 100, 30, 50, 10};

        private final int[] terms = new int[MOST_LAWS * TERMS];
        private final int[] since = new int[MOST_LAWS];
        private int taken = 0;

        /** What a law says of a term that it has no statement for, and what holds without a law. */
        static int usual(int what) {
            return within(what, 0, TERMS - 1) ? USUAL[what] : NONE;
        }

        int size() {
            return taken;
        }

        boolean isFull() {
            return taken >= MOST_LAWS;
        }

        int take(LawReader reader, int day) {
            if (isFull()) {
                return NONE;
            }
            int number = taken;
            for (int what = 0; what < TERMS; what++) {
                terms[number * TERMS + what] = reader.termRead(what);
            }
            since[number] = day;
            taken++;
            return number;
        }

        int inForce(int day) {
            for (int number = taken - 1; number >= 0; number--) {
                if (since[number] <= day) {
                    return number;
                }
            }
            return NONE;
        }

        int term(int day, int what) {
            int number = inForce(day);
            if (number == NONE || !within(what, 0, TERMS - 1)) {
                return usual(what);
            }
            return terms[number * TERMS + what];
        }
    }

    /** The tape, and the reading of a law from it. */
    private static final class LawReader {
        private static final int MOST_BYTES = 300;
        private static final int FEED_BYTES = 20;
        private static final int MOST_STATEMENTS = 12;
        private static final int MOST_DIGITS = 4;

        // the kinds of tokens
        private static final int END = 0;
        private static final int WORD = 1;
        private static final int DIGITS = 2;
        private static final int SEMICOLON = 3;
        private static final int STRANGE = 4;

        private final int[] tape = new int[MOST_BYTES];
        private final int[] terms = new int[LawBook.TERMS];
        private int bytes = 0;
        private int length = 0;
        private int kind = END;
        private int start = 0;
        private int stop = 0;

        int size() {
            return bytes;
        }

        boolean hasRoom() {
            return bytes + FEED_BYTES <= MOST_BYTES;
        }

        void append(int number) {
            for (int shift = 24; shift >= 0 && bytes < MOST_BYTES; shift -= 8) {
                tape[bytes] = (number >>> shift) & 255;
                bytes++;
            }
        }

        int termRead(int what) {
            return within(what, 0, terms.length - 1) ? terms[what] : NONE;
        }

        /** Reads the first n bytes and empties the tape: the FAULT's place, or NONE. */
        int read(int n) {
            length = Math.max(0, Math.min(bytes, n));
            bytes = 0;
            stop = 0;
            for (int what = 0; what < terms.length; what++) {
                terms[what] = LawBook.usual(what);
            }
            for (int statements = 0; statements < MOST_STATEMENTS; statements++) {
                scan();
                if (kind == END) {
                    return NONE;
                }
                if (!readStatement()) {
                    return start;
                }
            }
            scan();
            return kind == END ? NONE : start;
        }

        // Each of the next two stops at the token with which the law doesn't go on.

        private boolean readStatement() {
            int what = keyword();
            if (what == NONE || !readNumber(what)) {
                return false;
            }
            if (what == LawBook.LEAST) {
                scan();
                if (!isWord("to") || !readNumber(LawBook.GREATEST)) {
                    return false;
                }
            }
            scan();
            return kind == SEMICOLON;
        }

        private boolean readNumber(int what) {
            scan();
            if (kind != DIGITS || stop - start > MOST_DIGITS || !within(what, 0, terms.length - 1)) {
                return false;
            }
            int number = 0;
            for (int i = start; i < stop; i++) {
                number = 10 * number + tape[i] - '0';
            }
            terms[what] = number;
            return true;
        }

        private int keyword() {
            if (isWord("level")) {
                return LawBook.LEAST;
            }
            if (isWord("bank")) {
                return LawBook.BANK;
            }
            if (isWord("clear")) {
                return LawBook.CLEAR;
            }
            if (isWord("back")) {
                return LawBook.BACK;
            }
            if (isWord("royalty")) {
                return LawBook.ROYALTY;
            }
            return isWord("fine") ? LawBook.FINE : NONE;
        }

        private boolean isWord(String word) {
            if (kind != WORD || stop - start != word.length()) {
                return false;
            }
            for (int i = 0; i < word.length(); i++) {
                if (tape[start + i] != word.charAt(i)) {
                    return false;
                }
            }
            return true;
        }

        /** Goes on to the next token: from start to stop; at the text's end both are its length. */
        private void scan() {
            start = stop;
            while (start < length && isBlank(tape[start])) {
                start++;
            }
            stop = start;
            if (start >= length) {
                kind = END;
                return;
            }
            kind = kindOf(tape[start]);
            stop++;
            while ((kind == WORD || kind == DIGITS) && stop < length && kindOf(tape[stop]) == kind) {
                stop++;
            }
        }

        private static boolean isBlank(int letter) {
            return letter == 32 || letter == 10;
        }

        private static int kindOf(int letter) {
            if (within(letter, 'a', 'z')) {
                return WORD;
            }
            if (within(letter, '0', '9')) {
                return DIGITS;
            }
            return letter == ';' ? SEMICOLON : STRANGE;
        }
    }
}
