import java.util.ArrayList;
import java.util.List;
import java.util.regex.Matcher;
import java.util.regex.Pattern;

/** The document once more, by other means and without any thrift: what DredgePond is held against. */
final class PlainModel {
    private static final String[] WORDS = {"level", "", "bank", "clear", "back", "royalty", "fine"};
    private static final Pattern TOKEN = Pattern.compile("[a-z]+|[0-9]+|[^a-z0-9 \n]", Pattern.DOTALL);

    static final class Square {
        int depth = 3;
        int tin = -1;
        int dugOn = -1;
        boolean laidBack;
        boolean fined;
    }

    static final class Law {
        int from;
        int[] terms = {50, 200, 9, 100, 30, 50, 10};
    }

    final int rows;
    final int places;
    final Square[][] ground;
    final List<Law> laws = new ArrayList<>();
    final StringBuilder tape = new StringBuilder();
    int grade = 1000;
    int cost = 100;
    int today;
    int row = -1;
    int place = -1;
    int hours = 20;
    int level = 100;
    int mud;
    int lost;
    int fines;
    int speed = 3;
    int fault = -1;
    int[] months = new int[21];

    PlainModel(int rows, int places) {
        this.rows = rows < 2 ? 2 : rows > 20 ? 20 : rows;
        this.places = places < 2 ? 2 : places > 8 ? 8 : places;
        ground = new Square[this.rows][this.places];
        for (Square[] line : ground) {
            for (int i = 0; i < line.length; i++) {
                line[i] = new Square();
            }
        }
    }

    private Square at(int r, int p) {
        return r >= 0 && r < rows && p >= 0 && p < places ? ground[r][p] : null;
    }

    int depth(int r, int p, int depth) {
        Square s = at(r, p);
        if (s == null || s.dugOn >= 0 || depth < 1 || depth > 9) {
            return 0;
        }
        s.depth = depth;
        return 1;
    }

    int grade(int g) {
        if (g != 1000 && (g < 0 || g > 200)) {
            return 0;
        }
        grade = g;
        return 1;
    }

    int bore(int r, int p, int tin) {
        Square s = at(r, p);
        if (s == null || s.dugOn >= 0 || tin < 0 || tin > 1000) {
            return 0;
        }
        s.tin = tin;
        return 1;
    }

    private int[] span(int r, int p) {
        if (ground[r][p].tin >= 0) {
            return new int[] {ground[r][p].tin, ground[r][p].tin};
        }
        int[] span = {0, 1000};
        for (int i = 0; i < rows; i++) {
            for (int j = 0; j < places; j++) {
                int t = ground[i][j].tin;
                int far = (Math.abs(i - r) + Math.abs(j - p)) * grade;
                if (t >= 0) {
                    span[0] = Math.max(span[0], t - far);
                    span[1] = Math.min(span[1], t + far);
                }
            }
        }
        return span;
    }

    int square(int r, int p, int what) {
        Square s = at(r, p);
        if (s == null) {
            return -1;
        }
        int[] span = span(r, p);
        int[] answers = {s.depth, span[0], span[1], span[0] > span[1] ? 1 : 0, s.dugOn >= 0 ? 1 : 0,
            s.laidBack ? 1 : 0, s.tin >= 0 ? 1 : 0};
        return what < 0 || what >= answers.length ? -1 : answers[what];
    }

    int cost(int c) {
        if (c < 0 || c > 1000) {
            return 0;
        }
        cost = c;
        return 1;
    }

    /** From the first ROW on, the best way to each PLACE: its sum, and the PLACES as a text. */
    int path(int way, int k) {
        int left = rows - 1 - row;
        if (way < 0 || way > 2 || left == 0 || k < -1 || k >= left) {
            return -100000000;
        }
        String[] ways = new String[places];
        int[] sums = new int[places];
        for (int p = 0; p < places; p++) {
            ways[p] = row < 0 || p == place ? "" : null;
        }
        for (int r = row + 1; r < rows; r++) {
            String[] nextWays = new String[places];
            int[] nextSums = new int[places];
            for (int p = 0; p < places; p++) {
                int[] span = span(r, p);
                int tin = way == 0 ? span[0] : way == 1 ? span[1] : (span[0] + span[1]) / 2;
                int worth = ground[r][p].depth * (tin - cost);
                for (int q = 0; q < places; q++) {
                    if (ways[q] == null || Math.abs(p - q) > 1 && r > 0) {
                        continue;
                    }
                    int sum = sums[q] + worth;
                    String longer = ways[q] + p;
                    if (nextWays[p] == null || sum > nextSums[p]
                            || sum == nextSums[p] && longer.compareTo(nextWays[p]) < 0) {
                        nextWays[p] = longer;
                        nextSums[p] = sum;
                    }
                }
            }
            ways = nextWays;
            sums = nextSums;
        }
        int best = -1;
        for (int p = 0; p < places; p++) {
            if (ways[p] != null && (best < 0 || sums[p] > sums[best]
                    || sums[p] == sums[best] && ways[p].compareTo(ways[best]) < 0)) {
                best = p;
            }
        }
        return k < 0 ? sums[best] : ways[best].charAt(k) - '0';
    }

    int next() {
        int best = -1;
        for (int r = rows - 1; r > row; r--) {
            for (int p = places - 1; p >= 0; p--) {
                if (ground[r][p].tin < 0 && (best < 0 || width(r, p) >= width(best / 8, best % 8))) {
                    best = 8 * r + p;
                }
            }
        }
        return best;
    }

    private int width(int r, int p) {
        int[] span = span(r, p);
        return span[1] - span[0];
    }

    int bars(int p) {
        Square s = at(row + 1, p);
        if (s == null || row >= 0 && p != place && p != place - 1 && p != place + 1) {
            return 1;
        }
        if (level < tells(today, 0) || level > tells(today, 1)) {
            return 2;
        }
        if (row >= 0 && Math.abs(s.depth - ground[row][place].depth) > tells(today, 2)) {
            return 3;
        }
        if (hours < 2 * s.depth) {
            return 4;
        }
        return mud > tells(today, 3) ? 5 : 0;
    }

    int dig(int p, int tin) {
        if (bars(p) != 0 || tin < 0 || tin > 1000) {
            return -1;
        }
        row++;
        place = p;
        Square s = ground[row][p];
        s.dugOn = today;
        s.tin = tin;
        hours -= 2 * s.depth;
        mud += 3 * s.depth;
        int loss = s.depth * tin * (speed * speed / 2) / 100;
        lost += loss;
        months[today / 30] += s.depth * tin - loss;
        return s.depth * tin - loss;
    }

    int jig(int s) {
        if (s < 0 || s > 9) {
            return 0;
        }
        speed = s;
        return 1;
    }

    int let(int much) {
        if (much < 1 || much > level) {
            return -1;
        }
        level -= much;
        fines += mud > tells(today, 3) ? tells(today, 6) : 0;
        return level;
    }

    int day(int water) {
        if (water < 0 || water > 200 || today == 600) {
            return -1;
        }
        level = Math.min(1000, Math.max(0, level + water - 3));
        mud = Math.max(0, mud - 10);
        hours = 20;
        for (Square[] line : ground) {
            for (Square s : line) {
                if (s.dugOn >= 0 && !s.laidBack && !s.fined && today - s.dugOn > tells(today, 4)) {
                    s.fined = true;
                    fines += tells(today, 6);
                }
            }
        }
        return ++today;
    }

    int back(int r, int p) {
        Square s = at(r, p);
        if (s == null || s.dugOn < 0 || s.laidBack || r > row - 3) {
            return 0;
        }
        s.laidBack = true;
        return 1;
    }

    int feed(int... numbers) {
        if (tape.length() > 280) {
            return -1;
        }
        for (int number : numbers) {
            tape.append((char) (number >>> 24)).append((char) (number >> 16 & 255));
            tape.append((char) (number >> 8 & 255)).append((char) (number & 255));
        }
        return tape.length();
    }

    int law(int n) {
        if (n < 0 || n > tape.length()) {
            return -2;
        }
        if (laws.size() == 10) {
            return -3;
        }
        String text = tape.substring(0, n);
        tape.setLength(0);
        Law law = new Law();
        law.from = today;
        fault = read(text, law);
        if (fault >= 0) {
            return -1;
        }
        laws.add(law);
        return laws.size() - 1;
    }

    /** Goes over the tokens with what is due next: a k(ey word), n(umber), t(o), ; */
    private static int read(String text, Law law) {
        Matcher tokens = TOKEN.matcher(text);
        String due = "k";
        int term = -1;
        int statements = 0;
        while (tokens.find()) {
            String token = tokens.group();
            char first = due.charAt(0);
            due = due.substring(1);
            if (first == 'k') {
                term = List.of(WORDS).indexOf(token);
                if (term < 0 || ++statements > 12) {
                    return tokens.start();
                }
                due = term == 0 ? "ntn;k" : "n;k";
            } else if (first == 'n') {
                if (!token.matches("[0-9]{1,4}")) {
                    return tokens.start();
                }
                law.terms[term] = Integer.parseInt(token);
                term = 1;
            } else if (!token.equals(first == 't' ? "to" : ";")) {
                return tokens.start();
            }
        }
        return due.equals("k") ? -1 : text.length();
    }

    int fault() {
        return fault;
    }

    int tells(int day, int what) {
        if (day < 0 || day > 600 || what < 0 || what > 7) {
            return -1;
        }
        Law found = new Law();
        int number = -1;
        for (int i = 0; i < laws.size(); i++) {
            if (laws.get(i).from <= day) {
                found = laws.get(i);
                number = i;
            }
        }
        return what == 7 ? number : found.terms[what];
    }

    int month(int month, int what) {
        if (month < 0 || month > 20 || what < 0 || what > 1) {
            return -1;
        }
        int last = Math.min(600, 30 * month + 29);
        return what == 0 ? months[month] : (int) ((long) months[month] * tells(last, 5) / 1000);
    }

    int count(int what) {
        int bagged = 0;
        for (int m : months) {
            bagged += m;
        }
        int laid = 0;
        int quarrels = 0;
        for (int r = 0; r < rows; r++) {
            for (int p = 0; p < places; p++) {
                laid += square(r, p, 5);
                quarrels += square(r, p, 3);
            }
        }
        int[] answers = {today, row, place, hours, level, mud, bagged, lost, fines, laid, quarrels, laws.size(),
            tape.length()};
        return what < 0 || what >= answers.length ? -1 : answers[what];
    }
}
