/** The edges of promises 9 to 12 and 14: what bars digging, digging, the jig, letting water out, laying SOIL back. */
final class EdgesOfDigging {
    private static final int NONE = DredgePond.NONE;
    private static final int HIGH = Edge.HIGH;
    private static final int LOW = Edge.LOW;

    private final Edge edge;

    EdgesOfDigging(Edge edge) {
        this.edge = edge;
    }

    void all() {
        hoursOfADay();
        barsNotAsTold();
        barsByLevel();
        barsByBank();
        barsByHours();
        barsByMud();
        barsTheFirst();
        digsTheNextRow();
        dug();
        tinByDepth();
        digRefused();
        jigLoses();
        jigAnother();
        letOut();
        letFined();
        letNotAsTold();
        backRowsBehind();
        backRefused();
    }

    /** A ground whose ROWS 0 and 1 have such DEPTHS, ROW 0 dug at PLACE 1 by such a law. */
    private static Scene twoDeep(int first, int second, String law) {
        return new Scene(4, 3, x -> {
            x.depth(0, 1, first);
            x.depth(1, 1, second);
            x.dig(1, 100);
            Check.law(x, law);
        });
    }

    // ---- 9

    private void hoursOfADay() {
        edge.sentence(9, "A DAY has HOURS 20.");
        DredgePond x = new DredgePond(4, 2);
        edge.due("at first", x.count(3), 20);
        x.depth(0, 0, 9);
        x.depth(1, 0, 1);
        x.depth(2, 0, 1);
        x.dig(0, 0);
        edge.due("9 deep leave", x.count(3), 2);
        edge.due("2 are enough for 1", x.bars(0), 0);
        x.dig(0, 0);
        edge.due("all 20 are gone", x.count(3), 0);
        edge.due("none for 1 more", x.bars(0), 4);
    }

    private void barsNotAsTold() {
        edge.sentence(9, "what bars it, the first of: 1 not as told (no such PLACE, more than 1 beside, no ROW left);");
        for (int place = 0; place < 8; place++) {
            edge.due("ahead of the first any PLACE", new DredgePond(2, 8).bars(place), 0);
        }
        for (int place : new int[] {-1, 8, LOW, HIGH, 1 << 30}) {
            edge.due("no such PLACE " + place, new DredgePond(2, 8).bars(place), 1);
        }
        int[] fromThree = {1, 1, 0, 0, 0, 1, 1, 1};
        int[] fromNone = {0, 0, 1, 1, 1, 1, 1, 1};
        int[] fromSeven = {1, 1, 1, 1, 1, 1, 0, 0};
        bars("from 3", 3, fromThree);
        bars("from 0", 0, fromNone);
        bars("from 7", 7, fromSeven);
        DredgePond x = new DredgePond(2, 2);
        x.dig(0, 1);
        edge.due("one ROW left", x.bars(0), 0);
        x.dig(0, 1);
        edge.due("no ROW left", x.bars(0), 1);
        edge.due("no ROW left", x.bars(1), 1);
    }

    private void bars(String told, int from, int[] due) {
        DredgePond x = new DredgePond(2, 8);
        x.dig(from, 1);
        for (int place = 0; place < due.length; place++) {
            edge.due(told + " to " + place, x.bars(place), due[place]);
        }
        for (int place : new int[] {-1, 8, LOW, HIGH, from + (1 << 31)}) {
            edge.due(told + " to " + place, x.bars(place), 1);
        }
    }

    private void barsByLevel() {
        edge.sentence(9, "2 the level is below LEVEL's least or above its greatest;");
        int[][] usual = {{49, 2}, {50, 0}, {51, 0}, {199, 0}, {200, 0}, {201, 2}};
        for (int[] at : usual) {
            edge.due("no law, level " + at[0], atLevel(at[0]).bars(1), at[1]);
        }
        int[][] told = {{69, 2}, {70, 0}, {80, 0}, {81, 2}};
        for (int[] at : told) {
            DredgePond x = atLevel(at[0]);
            Check.law(x, "level 70 to 80;");
            edge.due("70 to 80, level " + at[0], x.bars(1), at[1]);
        }
        String[] laws = {"level 0 to 0;", "level 1 to 9999;", "level 90 to 90;", "level 91 to 89;",
            "level 9999 to 9999;"};
        int[] empty = {0, 2, 2, 2, 2};
        int[] ninety = {2, 0, 0, 2, 2};
        for (int i = 0; i < laws.length; i++) {
            DredgePond x = atLevel(0);
            Check.law(x, laws[i]);
            edge.due(laws[i] + " level 0", x.bars(1), empty[i]);
            DredgePond y = atLevel(90);
            Check.law(y, laws[i]);
            edge.due(laws[i] + " level 90", y.bars(1), ninety[i]);
        }
    }

    private DredgePond atLevel(int level) {
        DredgePond x = new DredgePond(3, 3);
        if (level < 100) {
            x.let(100 - level);
        } else {
            x.day(level - 100 + 3);
        }
        edge.due("the level", x.count(4), level);
        return x;
    }

    private void barsByBank() {
        edge.sentence(9, "3 its DEPTH and that of the SQUARE ahead differ by more than BANK;");
        edge.due("deeper, by less", twoDeep(3, 4, "bank 2;").make().bars(1), 0);
        edge.due("deeper, just so", twoDeep(3, 5, "bank 2;").make().bars(1), 0);
        edge.due("deeper, by more", twoDeep(3, 6, "bank 2;").make().bars(1), 3);
        edge.due("shallower, just so", twoDeep(5, 3, "bank 2;").make().bars(1), 0);
        edge.due("shallower, by more", twoDeep(6, 3, "bank 2;").make().bars(1), 3);
        edge.due("bank 0, alike", twoDeep(4, 4, "bank 0;").make().bars(1), 0);
        edge.due("bank 0, by 1", twoDeep(4, 5, "bank 0;").make().bars(1), 3);
        edge.due("8 by the usual 9", twoDeep(9, 1, "fine 1;").make().bars(1), 0);
        edge.due("8 by 8", twoDeep(9, 1, "bank 8;").make().bars(1), 0);
        edge.due("8 by 7", twoDeep(9, 1, "bank 7;").make().bars(1), 3);
        DredgePond x = new DredgePond(3, 3);
        x.depth(0, 0, 9);
        Check.law(x, "bank 0;");
        edge.due("ahead of the first there is none", x.bars(0), 0);
        DredgePond y = twoDeep(4, 4, "bank 0;").make();
        y.depth(0, 0, 9);
        y.depth(1, 0, 9);
        edge.due("the SQUARE ahead is the one dug, not the one of the same PLACE", y.bars(0), 3);
        y.depth(1, 0, 4);
        edge.due("the SQUARE ahead is the one dug, not the one of the same PLACE", y.bars(0), 0);
    }

    private void barsByHours() {
        edge.sentence(9, "4 HOURS left TODAY are less than 2 for each DEPTH;");
        edge.due("10 for 4", twoDeep(5, 4, "").make().bars(1), 0);
        edge.due("10 for 5", twoDeep(5, 5, "").make().bars(1), 0);
        edge.due("10 for 6", twoDeep(5, 6, "").make().bars(1), 4);
        edge.due("2 for 1", twoDeep(9, 1, "").make().bars(1), 0);
        edge.due("2 for 2", twoDeep(9, 2, "").make().bars(1), 4);
        DredgePond x = twoDeep(9, 9, "").make();
        edge.due("2 for 9", x.bars(1), 4);
        x.day(3);
        edge.due("20 for 9", x.bars(1), 0);
    }

    private void barsByMud() {
        edge.sentence(9, "5 mud is above CLEAR.");
        edge.due("12 by 13", twoDeep(4, 3, "clear 13;").make().bars(1), 0);
        edge.due("12 by 12", twoDeep(4, 3, "clear 12;").make().bars(1), 0);
        edge.due("12 by 11", twoDeep(4, 3, "clear 11;").make().bars(1), 5);
        edge.due("12 by 0", twoDeep(4, 3, "clear 0;").make().bars(1), 5);
        DredgePond x = new DredgePond(3, 3);
        Check.law(x, "clear 0;");
        edge.due("0 by 0", x.bars(1), 0);
        edge.due("99 by the usual 100", muddy(99, 4, 4, 5).bars(0), 0);
        edge.due("100 by the usual 100", muddy(100, 5, 5).bars(0), 0);
        edge.due("101 by the usual 100", muddy(101, 7).bars(0), 5);
    }

    /** Four DAYS with two SQUARES 5 deep leave mud 80; then a DAY for each DEPTH told, without the last night. */
    private DredgePond muddy(int mud, int... depths) {
        DredgePond x = new DredgePond(20, 2);
        for (int row = 0; row < 8; row++) {
            x.depth(row, 0, 5);
            x.dig(0, 1);
            x.day(row % 2 == 0 ? 201 : 3);
        }
        for (int i = 0; i < depths.length; i++) {
            x.depth(8 + i, 0, depths[i]);
            x.dig(0, 1);
            x.day(i < depths.length - 1 ? 3 : 201);
        }
        edge.due("the mud", x.count(5), mud);
        return x;
    }

    private void barsTheFirst() {
        edge.sentence(9, "What bars digging (1 to 5); 0: nothing.");
        // ROW 1 at PLACE 1 is too deep, too long to dig, behind too much mud; the level is too low
        Scene all = twoDeep(2, 9, "level 101 to 9999; bank 6; clear 5;");
        edge.unchanged("all but 1", all, x -> x.bars(1), 2);
        edge.unchanged("all with 1", all, x -> x.bars(-1), 1);
        edge.unchanged("3 to 5", twoDeep(2, 9, "bank 6; clear 5;"), x -> x.bars(1), 3);
        edge.unchanged("4 and 5", twoDeep(2, 9, "clear 5;"), x -> x.bars(1), 4);
        edge.unchanged("5 alone", twoDeep(2, 8, "clear 5;"), x -> x.bars(1), 5);
        edge.unchanged("nothing", twoDeep(2, 8, "clear 6;"), x -> x.bars(1), 0);
        edge.unchanged("2 and 5", twoDeep(2, 2, "level 0 to 99; clear 5;"), x -> x.bars(1), 2);
        edge.unchanged("3 and 5", twoDeep(2, 8, "bank 5; clear 5;"), x -> x.bars(1), 3);
        edge.unchanged("no ROW left", Scene.DONE, x -> x.bars(1), 1);
        edge.unchanged("busy", Scene.BUSY, x -> x.bars(1), Scene.BUSY.make().bars(1));
    }

    // ---- 10

    private void digsTheNextRow() {
        edge.sentence(10, "The DREDGE digs the SQUARE of the next ROW at a PLACE (the first: of ROW 0):");
        DredgePond x = new DredgePond(20, 8);
        edge.due("ahead of the first: no ROW", x.count(1), NONE);
        edge.due("ahead of the first: no PLACE", x.count(2), NONE);
        int place = 7;
        for (int row = 0; row < 20; row++) {
            x.depth(row, place, 1);
            x.dig(place, row);
            edge.due("ROW", x.count(1), row);
            edge.due("PLACE", x.count(2), place);
            edge.due("dug", x.square(row, place, 4), 1);
            edge.due("not the next", x.square(row + 1, place, 4), row < 19 ? 0 : NONE);
            place = row < 7 ? place - 1 : Math.min(7, place + 1);
            if (row % 10 == 9) {
                x.day(3);
            }
        }
        edge.due("behind the last", x.dig(7, 5), NONE);
        edge.due("behind the last: ROW", x.count(1), 19);
    }

    private void dug() {
        edge.sentence(10, "Dug: HOURS go, mud goes up by 3 for each DEPTH;");
        for (int depth = 1; depth <= 9; depth++) {
            DredgePond x = new DredgePond(2, 2);
            x.depth(0, 0, depth);
            x.dig(0, 10);
            edge.due("HOURS left behind " + depth, x.count(3), 20 - 2 * depth);
            edge.due("mud behind " + depth, x.count(5), 3 * depth);
            edge.due("the level stays", x.count(4), 100);
            edge.due("TODAY stays", x.count(0), 0);
        }
    }

    private void tinByDepth() {
        edge.sentence(10, "TIN is DEPTH times what is FOUND;");
        int[][] due = {{1, 0, 0}, {1, 1, 1}, {9, 0, 0}, {9, 1, 9}, {1, 1000, 1000}, {9, 1000, 9000}, {9, 999, 8991}};
        for (int[] at : due) {
            DredgePond x = new DredgePond(2, 2);
            x.jig(0);
            x.depth(0, 0, at[0]);
            edge.due("DEPTH " + at[0] + ", FOUND " + at[1], x.dig(0, at[1]), at[2]);
            edge.due("BAGGED", x.count(6), at[2]);
        }
    }

    private void digRefused() {
        edge.sentence(10, "The DREDGE digs; tin (0 to 1,000) is FOUND: what is BAGGED."
            + " NONE, doing nothing: something bars it, not as told.");
        edge.range("tin", Scene.BUSY, (x, n) -> x.dig(1, n), 0, 1000, NONE);
        edge.range("tin, the first", Scene.FRESH, (x, n) -> x.dig(2, n), 0, 1000, NONE);
        // the DREDGE is at PLACE 1 of 4
        edge.range("the PLACE", Scene.BUSY, (x, n) -> x.dig(n, 50), 0, 2, NONE);
        edge.range("the PLACE, the first", Scene.FRESH, (x, n) -> x.dig(n, 50), 0, 2, NONE);
        edge.unchanged("PLACE 3", Scene.BUSY, x -> x.dig(3, 50), NONE);
        edge.unchanged("no ROW left", Scene.DONE, x -> x.dig(1, 50), NONE);
        edge.unchanged("no ROW left, and no tin", Scene.DONE, x -> x.dig(1, -1), NONE);
        edge.unchanged("the level", Scene.DRY, x -> x.dig(1, 50), NONE);
        edge.unchanged("the bank", twoDeep(3, 6, "bank 2;"), x -> x.dig(1, 50), NONE);
        edge.unchanged("the HOURS", twoDeep(5, 6, ""), x -> x.dig(1, 50), NONE);
        edge.unchanged("the mud", twoDeep(4, 3, "clear 11;"), x -> x.dig(1, 50), NONE);
        edge.due("not the mud", twoDeep(4, 3, "clear 12;").make().dig(1, 50), 144);
        edge.unchanged("both", Scene.DRY, x -> x.dig(3, 1001), NONE);
    }

    // ---- 11

    private void jigLoses() {
        edge.sentence(11, "the jig's speed s (0 to 9; 3 at first) loses (s times s by 2, cut) hundredths of it, cut;"
            + " the rest is BAGGED.");
        int[] hundredths = {0, 0, 2, 4, 8, 12, 18, 24, 32, 40};
        for (int speed = 0; speed <= 9; speed++) {
            for (int tin : new int[] {0, 1, 33, 34, 999, 1000}) {
                DredgePond x = new DredgePond(2, 2);
                x.jig(speed);
                int lost = 3 * tin * hundredths[speed] / 100;
                edge.due("BAGGED at " + speed + " of " + tin, x.dig(0, tin), 3 * tin - lost);
                edge.due("lost at " + speed + " of " + tin, x.count(7), lost);
                edge.due("BAGGED in all", x.count(6), 3 * tin - lost);
            }
        }
        // 4 hundredths: of 24 not yet 1, of 25 just 1
        edge.due("3 at first, of 24", bagged(1, 24), 24);
        edge.due("3 at first, of 25", bagged(1, 25), 24);
        edge.due("3 at first, of 49", bagged(1, 49), 48);
        edge.due("3 at first, of 50", bagged(1, 50), 48);
        edge.due("3 at first, of 9 times 1,000", bagged(9, 1000), 8640);
        DredgePond y = new DredgePond(3, 2);
        y.dig(0, 8);
        y.dig(0, 8);
        edge.due("cut for each SQUARE, not in all", y.count(7), 0);
    }

    private static int bagged(int depth, int tin) {
        DredgePond x = new DredgePond(2, 2);
        x.depth(0, 0, depth);
        return x.dig(0, tin);
    }

    private void jigAnother() {
        edge.sentence(11, "The jig's speed: true; false: another one.");
        edge.range("the speed", Scene.BUSY, (x, n) -> Edge.one(x.jig(n)), 0, 9, 0);
        edge.range("the speed", Scene.FRESH, (x, n) -> Edge.one(x.jig(n)), 0, 9, 0);
        DredgePond x = new DredgePond(2, 2);
        x.dig(0, 1000);
        edge.due("later", x.jig(9), true);
        edge.due("what is BAGGED stays", x.count(6), 2880);
    }

    // ---- 12

    private void letOut() {
        edge.sentence(12, "LET: so much of the level goes out;");
        DredgePond x = new DredgePond(2, 2);
        edge.due("1", x.let(1), 99);
        edge.due("all but 1", x.let(98), 1);
        edge.due("the last", x.let(1), 0);
        edge.due("the level", x.count(4), 0);
        DredgePond y = new DredgePond(2, 2);
        edge.due("all at once", y.let(100), 0);
        DredgePond z = new DredgePond(2, 2);
        for (int i = 0; i < 5; i++) {
            z.day(200);
        }
        edge.due("the most there is", z.let(1000), 0);
    }

    private void letFined() {
        edge.sentence(12, "with mud above CLEAR that is fined (FINE).");
        String[] laws = {"clear 13;", "clear 12;", "clear 11;", "clear 11; fine 0;", "clear 0; fine 9999;"};
        int[] fines = {0, 0, 10, 0, 9999};
        for (int i = 0; i < laws.length; i++) {
            DredgePond x = twoDeep(4, 3, laws[i]).make();
            edge.due(laws[i], x.let(1), 99);
            edge.due(laws[i] + " FINES", x.count(8), fines[i]);
            x.let(99);
            edge.due(laws[i] + " each time, however much", x.count(8), 2 * fines[i]);
        }
        DredgePond x = new DredgePond(2, 2);
        Check.law(x, "clear 0;");
        x.let(1);
        edge.due("no mud", x.count(8), 0);
    }

    private void letNotAsTold() {
        edge.sentence(12, "LET (1 on, at most the level): the level. NONE, doing nothing: not as told.");
        edge.range("let", Scene.FRESH, (x, n) -> x.let(n), 1, 100, NONE);
        edge.range("let with a fine due", twoDeep(4, 3, "clear 0;"), (x, n) -> x.let(n), 1, 100, NONE);
        edge.unchanged("0 of 0", Scene.DRY, x -> x.let(0), NONE);
        edge.unchanged("1 of 0", Scene.DRY, x -> x.let(1), NONE);
        edge.due("1 of 1", Scene.FRESH.then(x -> x.let(99)).make().let(1), 0);
        edge.unchanged("2 of 1", Scene.FRESH.then(x -> x.let(99)), x -> x.let(2), NONE);
        edge.due("no ROW left is no matter", Scene.DONE.make().let(1), 99);
    }

    // ---- 14

    private void backRowsBehind() {
        edge.sentence(14, "SOIL is laid BACK on a dug SQUARE at least 3 ROWS behind the DREDGE.");
        DredgePond x = new DredgePond(20, 2);
        for (int row = 0; row < 20; row++) {
            x.depth(row, 0, 1);
            x.dig(0, 1);
            x.day(3);
            if (row == 3) {
                edge.due("2 ROWS behind", x.back(1, 0), false);
                edge.due("3 ROWS behind", x.back(0, 0), true);
            }
        }
        edge.due("where the DREDGE is", x.back(19, 0), false);
        edge.due("1 behind the last", x.back(18, 0), false);
        edge.due("2 behind the last", x.back(17, 0), false);
        edge.due("3 behind the last", x.back(16, 0), true);
        edge.due("18 behind the last", x.back(1, 0), true);
        edge.due("laid BACK", x.count(9), 3);
        edge.due("laid BACK 16", x.square(16, 0, 5), 1);
        edge.due("not laid BACK 17", x.square(17, 0, 5), 0);
        edge.due("still dug", x.square(16, 0, 4), 1);
    }

    private void backRefused() {
        edge.sentence(14, "SOIL is laid BACK: true. False, doing nothing: none such, not dug, laid BACK, too near.");
        Scene busy = Scene.BUSY;
        for (int[] at : Edge.noSquares(busy)) {
            edge.unchanged("none such: back(" + at[0] + ", " + at[1] + ")", busy,
                x -> Edge.one(x.back(at[0], at[1])), 0);
        }
        edge.unchanged("not dug, beside", busy, x -> Edge.one(x.back(1, 2)), 0);
        edge.unchanged("not dug, ahead", busy, x -> Edge.one(x.back(6, 1)), 0);
        edge.unchanged("not dug, the last", busy, x -> Edge.one(x.back(8, 3)), 0);
        edge.unchanged("laid BACK", busy, x -> Edge.one(x.back(0, 1)), 0);
        edge.unchanged("too near, 2 ROWS", busy, x -> Edge.one(x.back(3, 2)), 0);
        edge.unchanged("too near, 1 ROW", busy, x -> Edge.one(x.back(4, 1)), 0);
        edge.unchanged("where the DREDGE is", busy, x -> Edge.one(x.back(5, 1)), 0);
        edge.unchanged("nothing dug", Scene.FRESH, x -> Edge.one(x.back(0, 0)), 0);
        edge.unchanged("once more", Scene.DONE, x -> Edge.one(x.back(0, 1)), 0);
        DredgePond x = busy.make();
        edge.due("3 ROWS", x.back(2, 2), true);
        edge.due("4 ROWS", x.back(1, 1), true);
        edge.due("count", x.count(9), 3);
    }
}
