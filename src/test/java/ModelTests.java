import java.nio.charset.StandardCharsets;
import java.util.Random;

/** Runs of up to 512 calls (all that the document promises), mostly as told and some not, against the plain model. */
public final class ModelTests {
    private static final int RUNS = 1800;
    private static final int MOST_CALLS = 512;
    /** What tellLaw() may need: 15 feeds, law(), fault(). */
    private static final int MOST_AT_ONCE = 17;
    private static final String[] WORDS = {"bank ", "clear ", "back ", "royalty ", "fine "};
    private static final int[] WILD = {-2, -1, 0, 1, 2, 7, 8, 9, 20, 21, 200, 201, 600, 601, 1000, 1001,
        Integer.MIN_VALUE, Integer.MAX_VALUE, 1 << 16, -1 << 16};

    private final Check check;
    private final Random random;
    private final DredgePond pond;
    private final PlainModel model;
    private final boolean steady;
    private String told = "";
    private int calls = 0;

    private ModelTests(Check check, int run) {
        this.check = check;
        random = new Random(run);
        int rows = random.nextInt(24);
        int places = random.nextInt(11);
        steady = random.nextBoolean();
        pond = new DredgePond(rows, places);
        model = new PlainModel(rows, places);
        told = "run " + run + " (" + rows + ", " + places + ") ";
    }

    public static void main(String[] args) {
        Check check = new Check();
        for (int run = 0; run < RUNS; run++) {
            ModelTests one = new ModelTests(check, run);
            for (int step = 0; step < MOST_CALLS && one.calls <= MOST_CALLS - MOST_AT_ONCE; step++) {
                one.call(step);
            }
            check.due(one.told + "within the calls of the document", one.calls <= MOST_CALLS, true);
        }
        check.close();
    }

    /** Mostly a number from least to greatest, now and then any other. */
    private int some(int least, int greatest) {
        if (random.nextInt(40) == 0) {
            return WILD[random.nextInt(WILD.length)];
        }
        return least + random.nextInt(greatest - least + 1);
    }

    private int row() {
        return some(0, model.rows - 1);
    }

    private int place() {
        return some(0, model.places - 1);
    }

    private int placeNearby() {
        return model.row < 0 || random.nextInt(8) == 0 ? place() : model.place + random.nextInt(3) - 1;
    }

    private void due(String call, int got, int want) {
        calls++;
        check.due(told + call, got, want);
    }

    private void due(String call, boolean got, int want) {
        due(call, got ? 1 : 0, want);
    }

    private void call(int n) {
        String at = "call " + n + " ";
        int kind = random.nextInt(28);
        if (kind < 8) {
            change(at, kind);
        } else if (kind < 20) {
            ask(at, kind);
        } else if (kind < 26) {
            work(at);
        } else {
            tellLaw(at);
        }
    }

    private void change(String at, int kind) {
        int r = row();
        int p = place();
        switch (kind) {
            case 0:
            case 1: {
                int d = some(1, steady ? 4 : 9);
                due(at + "depth(" + r + ", " + p + ", " + d + ")", pond.depth(r, p, d), model.depth(r, p, d));
                break;
            }
            case 2:
            case 3: {
                int t = steady ? some(300, 600) : some(0, 1000);
                due(at + "bore(" + r + ", " + p + ", " + t + ")", pond.bore(r, p, t), model.bore(r, p, t));
                break;
            }
            case 4: {
                int g = random.nextInt(4) == 0 ? 1000 : some(0, 200);
                due(at + "grade(" + g + ")", pond.grade(g), model.grade(g));
                break;
            }
            case 5: {
                int c = some(0, 1000);
                due(at + "cost(" + c + ")", pond.cost(c), model.cost(c));
                break;
            }
            case 6: {
                int s = some(0, 9);
                due(at + "jig(" + s + ")", pond.jig(s), model.jig(s));
                break;
            }
            default:
                due(at + "back(" + r + ", " + p + ")", pond.back(r, p), model.back(r, p));
                break;
        }
    }

    private void ask(String at, int kind) {
        switch (kind) {
            case 8:
            case 9:
            case 10: {
                int r = row();
                int p = place();
                int w = some(0, 7);
                due(at + "square(" + r + ", " + p + ", " + w + ")", pond.square(r, p, w), model.square(r, p, w));
                break;
            }
            case 11:
            case 12: {
                int way = some(0, 2);
                int k = some(-1, model.rows);
                due(at + "path(" + way + ", " + k + ")", pond.path(way, k), model.path(way, k));
                break;
            }
            case 13:
                due(at + "next()", pond.next(), model.next());
                break;
            case 14: {
                int p = placeNearby();
                due(at + "bars(" + p + ")", pond.bars(p), model.bars(p));
                break;
            }
            case 15: {
                int d = random.nextBoolean() ? some(0, 600) : some(0, model.today + 1);
                int w = some(0, 8);
                due(at + "tells(" + d + ", " + w + ")", pond.tells(d, w), model.tells(d, w));
                break;
            }
            case 16: {
                int m = random.nextBoolean() ? some(0, 20) : some(0, model.today / 30 + 1);
                int w = some(0, 2);
                due(at + "month(" + m + ", " + w + ")", pond.month(m, w), model.month(m, w));
                break;
            }
            case 17:
                due(at + "fault()", pond.fault(), model.fault());
                break;
            default: {
                int w = some(0, 13);
                due(at + "count(" + w + ")", pond.count(w), model.count(w));
                break;
            }
        }
    }

    private void work(String at) {
        int kind = random.nextInt(12);
        if (kind < 3) {
            int p = placeNearby();
            int t = some(0, 1000);
            due(at + "dig(" + p + ", " + t + ")", pond.dig(p, t), model.dig(p, t));
        } else if (kind < 4) {
            int m = some(0, 30);
            due(at + "let(" + m + ")", pond.let(m), model.let(m));
        } else if (kind < 6 && model.row >= 3) {
            int r = random.nextInt(model.row + 1);
            int p = place();
            due(at + "back(" + r + ", " + p + ")", pond.back(r, p), model.back(r, p));
        } else if (!steady && kind < 7) {
            int w = some(0, 200);
            due(at + "day(" + w + ")", pond.day(w), model.day(w));
        } else {
            int w = some(0, 6);
            due(at + "day(" + w + ")", pond.day(w), model.day(w));
        }
    }

    private void tellLaw(String at) {
        if (random.nextInt(3) != 0) {
            return;
        }
        String text = lawText();
        byte[] bytes = (text + " ".repeat(19)).getBytes(StandardCharsets.ISO_8859_1);
        for (int from = 0; from + 20 <= bytes.length; from += 20) {
            int[] n = new int[5];
            for (int i = 0; i < 20; i++) {
                n[i / 4] = n[i / 4] << 8 | bytes[from + i] & 255;
            }
            due(at + "feed(..)", pond.feed(n[0], n[1], n[2], n[3], n[4]), model.feed(n));
        }
        if (random.nextInt(6) == 0) {
            return;
        }
        int length = some(text.length(), text.length());
        due(at + "law(" + length + ") of " + text, pond.law(length), model.law(length));
        due(at + "fault() of " + text, pond.fault(), model.fault());
    }

    private String lawText() {
        StringBuilder text = new StringBuilder();
        int statements = random.nextInt(6) == 0 ? 10 + random.nextInt(5) : random.nextInt(5);
        for (int i = 0; i < statements; i++) {
            int kind = random.nextInt(6);
            if (kind == 5) {
                text.append("level ").append(random.nextInt(120)).append(" to ").append(80 + random.nextInt(600));
            } else {
                text.append(WORDS[kind]).append(random.nextInt(8) == 0 ? random.nextInt(12000) : random.nextInt(40));
            }
            text.append(random.nextBoolean() ? ";" : "; ");
        }
        if (text.length() > 0 && random.nextInt(2) == 0) {
            spoil(text);
        }
        return text.toString();
    }

    private void spoil(StringBuilder text) {
        int at = random.nextInt(text.length());
        switch (random.nextInt(4)) {
            case 0:
                text.setLength(at);
                break;
            case 1:
                text.deleteCharAt(at);
                break;
            case 2:
                text.insert(at, "\n ;a7tz0\u00ff{`/:".charAt(random.nextInt(13)));
                break;
            default:
                text.setCharAt(at, (char) random.nextInt(256));
                break;
        }
    }
}
