import java.nio.charset.StandardCharsets;

/** The edges of promises 15, 16 and 18: the tape, the LAWS taken, what is in force. */
final class EdgesOfLaws {
    private static final int NONE = DredgePond.NONE;

    private final Edge edge;

    EdgesOfLaws(Edge edge) {
        this.edge = edge;
    }

    void all() {
        feedHighestFirst();
        feedFull();
        lawOfTheFirstBytes();
        lawWithAFault();
        lawNotAsTold();
        lawsFull();
        lawFromTodayOn();
        lastOfEachElseTheUsual();
        tellsNoneForOthers();
    }

    // ---- 15

    private void feedHighestFirst() {
        edge.sentence(15, "Twenty bytes come behind those on the tape, of each number the highest first:"
            + " how many there are.");
        String text = "bank 1;clear 2;fine 3;back 4;royalty 5;\n";
        DredgePond x = new DredgePond(2, 2);
        edge.due("20", x.feed(word(text, 0), word(text, 4), word(text, 8), word(text, 12), word(text, 16)), 20);
        edge.due("40", x.feed(word(text, 20), word(text, 24), word(text, 28), word(text, 32), word(text, 36)), 40);
        edge.due("the law", x.law(40), 0);
        int[] due = {50, 200, 1, 2, 4, 5, 3};
        for (int what = 0; what < due.length; what++) {
            edge.due("term " + what, x.tells(0, what), due[what]);
        }
        // a byte that begins no token, at each of the twenty places: 255, and 128, whose numbers are below 0
        for (int place = 0; place < 20; place++) {
            for (int letter : new int[] {255, 128, 0}) {
                int[] blank = {0x20202020, 0x20202020, 0x20202020, 0x20202020, 0x20202020};
                int shift = 24 - place % 4 * 8;
                blank[place / 4] = blank[place / 4] & ~(255 << shift) | letter << shift;
                DredgePond y = new DredgePond(2, 2);
                y.feed(blank[0], blank[1], blank[2], blank[3], blank[4]);
                edge.due("byte " + letter + " at " + place, y.law(20), NONE);
                edge.due("byte " + letter + " at " + place, y.fault(), place);
            }
        }
    }

    private static int word(String text, int from) {
        byte[] bytes = text.getBytes(StandardCharsets.ISO_8859_1);
        int word = 0;
        for (int i = 0; i < 4; i++) {
            word = word << 8 | bytes[from + i] & 255;
        }
        return word;
    }

    private void feedFull() {
        edge.sentence(15, "NONE, doing nothing: there would be more than 300.");
        DredgePond x = new DredgePond(2, 2);
        for (int bytes = 20; bytes <= 300; bytes += 20) {
            edge.due("up to " + bytes, x.feed(0, 0, 0, 0, 0), bytes);
        }
        edge.due("more than 300", x.feed(0, 0, 0, 0, 0), NONE);
        edge.due("still 300", x.count(12), 300);
        Scene full = new Scene(2, 2, y -> Check.feed(y, "fine 3;" + " ".repeat(286) + "fine 8;"));
        edge.due("full", full.make().count(12), 300);
        edge.unchanged("more than 300", full, y -> y.feed(1, 2, 3, 4, 5), NONE);
        edge.due("all 300 are read", full.make().law(300), 0);
        DredgePond y = full.make();
        y.feed(1, 2, 3, 4, 5);
        edge.due("all 300 are read", y.law(300), 0);
        edge.due("the last statement", y.tells(0, 6), 8);
        edge.due("empty, there is room again", y.feed(0, 0, 0, 0, 0), 20);
        Scene nearly = new Scene(2, 2, z -> Check.feed(z, "fine 3;" + " ".repeat(266) + "fine 8;"));
        edge.due("280", nearly.make().count(12), 280);
        edge.due("280 and 20", nearly.make().feed(0, 0, 0, 0, 0), 300);
    }

    // ---- 16

    private void lawOfTheFirstBytes() {
        edge.sentence(16, "The first n bytes of the tape (which is empty then) are THE LAW from TODAY on: its number.");
        Scene fed = Scene.FRESH.then(x -> Check.feed(x, "fine 3; fine 4; zzzz"));
        int[][] due = {{0, 10}, {7, 3}, {8, 3}, {15, 4}, {16, 4}};
        for (int[] at : due) {
            DredgePond x = fed.make();
            edge.due("the first " + at[0], x.law(at[0]), 0);
            edge.due("the first " + at[0] + ": FINE", x.tells(0, 6), at[1]);
            edge.due("the first " + at[0] + ": the tape is empty", x.count(12), 0);
            edge.due("the first " + at[0] + ": nothing is left to read", x.law(1), -2);
            edge.due("the first " + at[0] + ": one LAW", x.count(11), 1);
        }
        DredgePond x = new DredgePond(2, 2);
        edge.due("nothing of an empty tape", x.law(0), 0);
        edge.due("all of it", Check.law(x, "fine 5;             "), 1);
        edge.due("all of it", x.tells(0, 6), 5);
        edge.due("the next comes to an empty tape", Check.feed(x, "fine 6;"), 20);
    }

    private void lawWithAFault() {
        edge.sentence(16, "NONE: a FAULT;");
        DredgePond x = Scene.BUSY.make();
        Check.feed(x, "; fine 3;");
        int laws = x.count(11);
        edge.due("a FAULT", x.law(60), NONE);
        edge.due("the tape is empty", x.count(12), 0);
        edge.due("no LAW is taken", x.count(11), laws);
        edge.due("its place", x.fault(), 40);
        for (int what = 0; what <= 7; what++) {
            edge.due("in force as ahead of it", x.tells(5, what), Scene.BUSY.make().tells(5, what));
        }
        // what stood ahead of the FAULT isn't taken either, and the next law begins anew
        DredgePond y = new DredgePond(2, 2);
        Check.law(y, "fine 3; bank 4; x");
        edge.due("ahead of it", y.tells(0, 6), 10);
        edge.due("the next", Check.law(y, "clear 5;"), 0);
        edge.due("the next has none of it", y.tells(0, 6) + y.tells(0, 2), 10 + 9);
    }

    private void lawNotAsTold() {
        edge.sentence(16, "-2, doing nothing: n is below 0 or more than there are;");
        edge.range("n of 40", Scene.BUSY, (x, n) -> x.law(n), 0, 40, -2);
        edge.unchanged("1 of none", Scene.FRESH, x -> x.law(1), -2);
        edge.unchanged("-1 of none", Scene.FRESH, x -> x.law(-1), -2);
        edge.due("0 of none", Scene.FRESH.make().law(0), 0);
        Scene fed = Scene.FRESH.then(x -> Check.feed(x, "fine 3;"));
        edge.due("20 of 20", fed.make().law(20), 0);
        edge.unchanged("21 of 20", fed, x -> x.law(21), -2);
        edge.unchanged("300 of 20", fed, x -> x.law(300), -2);
        edge.unchanged("-1 of 20", fed, x -> x.law(-1), -2);
    }

    private void lawsFull() {
        edge.sentence(16, "-3, doing nothing: there are 10.");
        Scene full = Scene.TEN_LAWS;
        edge.due("there are 10", full.make().count(11), 10);
        edge.unchanged("one more", full, x -> x.law(22), -3);
        edge.unchanged("one with a FAULT", full, x -> x.law(3), -3);
        edge.unchanged("an empty one", full, x -> x.law(0), -3);
        edge.unchanged("n is more than there are", full, x -> x.law(41), -2);
        edge.unchanged("n is below 0", full, x -> x.law(-1), -2);
        DredgePond x = new DredgePond(2, 2);
        for (int number = 0; number < 9; number++) {
            x.law(0);
        }
        edge.due("a FAULT is no LAW", Check.law(x, "x"), NONE);
        edge.due("the tenth", x.law(0), 9);
        edge.due("the eleventh", x.law(0), -3);
        edge.due("the FAULT of the tenth", x.fault(), NONE);
    }

    private void lawFromTodayOn() {
        edge.sentence(16, "Taken (up to 10), in force from TODAY on.");
        DredgePond x = new DredgePond(2, 2);
        for (int number = 0; number < 10; number++) {
            edge.due("number " + number, Check.law(x, "fine " + (100 + number) + ";"), number);
            Check.wait(x, number == 4 ? 0 : 2);
        }
        // 4 and 5 are taken on DAY 8 both
        int[] from = {0, 2, 4, 6, 8, 8, 10, 12, 14, 16};
        for (int number = 0; number < 10; number++) {
            edge.due("its DAY", x.tells(from[number], 7), number == 4 ? 5 : number);
            edge.due("its DAY", x.tells(from[number], 6), number == 4 ? 105 : 100 + number);
            edge.due("the DAY behind", x.tells(from[number] + 1, 7), number == 4 ? 5 : number);
            edge.due("the DAY ahead", x.tells(from[number] - 1, 7), number == 5 ? 3 : number - 1);
        }
        edge.due("to the last DAY", x.tells(600, 6), 109);
        // on the same DAY it holds for the next call
        DredgePond y = new DredgePond(2, 2);
        y.day(3);
        edge.due("nothing bars it", y.bars(0), 0);
        Check.law(y, "level 0 to 99;");
        edge.due("from TODAY on", y.bars(0), 2);
        edge.due("not the DAY ahead", y.tells(0, 1), 200);
    }

    // ---- 18

    private void lastOfEachElseTheUsual() {
        edge.sentence(18, "Of one (the last of each; else): LEVEL 50 to 200, BANK 9, CLEAR 100, BACK 30,"
            + " ROYALTY 50 (thousandths), FINE 10.");
        int[] usual = {50, 200, 9, 100, 30, 50, 10};
        String[] texts = {"", "level 1 to 2;", "bank 3;", "clear 3;", "back 3;", "royalty 3;", "fine 3;",
            "fine 1;fine 2;fine 3;", "level 9 to 8; bank 9; level 1 to 2;"};
        int[][] told = {{}, {0, 1, 1, 2}, {2, 3}, {3, 3}, {4, 3}, {5, 3}, {6, 3}, {6, 3}, {0, 1, 1, 2, 2, 9}};
        for (int i = 0; i < texts.length; i++) {
            int[] due = usual.clone();
            for (int j = 0; j < told[i].length; j += 2) {
                due[told[i][j]] = told[i][j + 1];
            }
            DredgePond x = new DredgePond(2, 2);
            Check.law(x, "level 7 to 7; bank 7; clear 7; back 7; royalty 7; fine 7;");
            Check.law(x, texts[i]);
            for (int what = 0; what < due.length; what++) {
                edge.due("'" + texts[i] + "' term " + what, x.tells(0, what), due[what]);
            }
        }
    }

    private void tellsNoneForOthers() {
        edge.sentence(18, "Of THE LAW in force on a DAY (0 to 600): LEVEL's least (0), greatest (1), BANK (2),"
            + " CLEAR (3), BACK (4), ROYALTY (5), FINE (6), its number (7; NONE). NONE for others.");
        for (int what = 0; what <= 7; what++) {
            int asked = what;
            edge.range("the DAY, of " + what, Scene.BUSY, (x, n) -> x.tells(n, asked), 0, 600, NONE);
        }
        edge.range("what", Scene.BUSY, (x, n) -> x.tells(5, n), 0, 7, NONE);
        edge.range("what, of no LAW", Scene.FRESH, (x, n) -> x.tells(0, n), 0, 6, NONE);
        edge.due("neither", Scene.BUSY.make().tells(601, 8), NONE);
        int[] first = {50, 200, 6, 20, 2, 300, 7, 0};
        int[] second = {40, 180, 5, 25, 3, 450, 9, 1};
        int[] usual = {50, 200, 9, 100, 30, 50, 10, NONE};
        DredgePond x = Scene.BUSY.make();
        for (int what = 0; what <= 7; what++) {
            edge.due("DAY 0", x.tells(0, what), first[what]);
            edge.due("DAY 4", x.tells(4, what), first[what]);
            edge.due("DAY 5", x.tells(5, what), second[what]);
            edge.due("DAY 600", x.tells(600, what), second[what]);
            edge.due("no LAW, DAY 0", Scene.FRESH.make().tells(0, what), usual[what]);
            edge.due("no LAW, DAY 600", Scene.FRESH.make().tells(600, what), usual[what]);
        }
        DredgePond late = new DredgePond(2, 2);
        late.day(3);
        late.law(0);
        edge.due("number, ahead of the first", late.tells(0, 7), NONE);
        edge.due("number, from the first on", late.tells(1, 7), 0);
        edge.unchanged("asking", Scene.BUSY, y -> y.tells(5, 7), 1);
    }
}
