/** The edges of promises 1 to 5: the ground, its DEPTHS, GRADE, BORES and SPANS. */
final class EdgesOfGround {
    private static final int NONE = DredgePond.NONE;
    private static final int LOW = Edge.LOW;
    private static final int HIGH = Edge.HIGH;

    private final Edge edge;

    EdgesOfGround(Edge edge) {
        this.edge = edge;
    }

    void all() {
        none();
        rowsAndPlacesHeld();
        rowsAndPlacesOfTheGround();
        depthAtFirst();
        depthNotAsTold();
        tinAtFirst();
        gradeAtFirst();
        gradeAnother();
        gradeBesideBySides();
        boreNotAsTold();
        boresAndFound();
        spanOverTheWholeGround();
        spanZeroAtLeast();
        spanThousandAtMost();
        spanOfToldOnes();
        quarrel();
        squareNoneSuch();
    }

    // ---- 1

    private void none() {
        edge.sentence(1, "`NONE = -1`: There is none.");
        edge.due("NONE", NONE, -1);
    }

    private void rowsAndPlacesHeld() {
        edge.sentence(1, "So many ROWS and PLACES (held to 2 to 20 and 2 to 8).");
        int[][] rows = {{LOW, 2}, {-1, 2}, {0, 2}, {1, 2}, {2, 2}, {3, 3}, {19, 19}, {20, 20}, {21, 20}, {HIGH, 20}};
        for (int[] told : rows) {
            hasSize("rows " + told[0], new DredgePond(told[0], 3), told[1], 3);
        }
        int[][] places = {{LOW, 2}, {-1, 2}, {0, 2}, {1, 2}, {2, 2}, {3, 3}, {7, 7}, {8, 8}, {9, 8}, {HIGH, 8}};
        for (int[] told : places) {
            hasSize("places " + told[0], new DredgePond(4, told[0]), 4, told[1]);
        }
        hasSize("both too small", new DredgePond(1, 1), 2, 2);
        hasSize("both too large", new DredgePond(21, 9), 20, 8);
        hasSize("one of each", new DredgePond(LOW, HIGH), 2, 8);
        edge.alike("held is as if told so", new Scene(1, 0, x -> x.jig(4)), new Scene(2, 2, x -> x.jig(4)));
        edge.alike("held is as if told so", new Scene(21, 9, x -> x.jig(4)), new Scene(20, 8, x -> x.jig(4)));
    }

    private void hasSize(String told, DredgePond x, int rows, int places) {
        edge.due(told + ": the last SQUARE", x.square(rows - 1, places - 1, 0), 3);
        edge.due(told + ": a ROW more", x.square(rows, places - 1, 0), NONE);
        edge.due(told + ": a PLACE more", x.square(rows - 1, places, 0), NONE);
        edge.due(told + ": the PATH's last ROW", x.path(0, rows - 1), 0);
        edge.due(told + ": the PATH's end", x.path(0, rows), -100000000);
        edge.due(told + ": the last PLACE to dig", x.bars(places - 1), 0);
        edge.due(told + ": no such PLACE to dig", x.bars(places), 1);
    }

    private void rowsAndPlacesOfTheGround() {
        edge.sentence(1, "GROUND: ROWS 0 to l - 1 (2 to 20) by PLACES 0 to w - 1 (2 to 8);");
        DredgePond x = new DredgePond(20, 8);
        int[][] corners = {{0, 0}, {0, 7}, {19, 0}, {19, 7}};
        for (int i = 0; i < corners.length; i++) {
            edge.due("corner " + i, x.bore(corners[i][0], corners[i][1], 10 + i), true);
        }
        for (int i = 0; i < corners.length; i++) {
            edge.due("corner " + i + " is its own", x.square(corners[i][0], corners[i][1], 1), 10 + i);
        }
        int told = 0;
        for (int row = 0; row < 20; row++) {
            for (int place = 0; place < 8; place++) {
                told += x.square(row, place, 6);
            }
        }
        edge.due("no others are told", told, 4);
    }

    // ---- 2

    private void depthAtFirst() {
        edge.sentence(2, "a SQUARE has a DEPTH 1 to 9 (3 at first),");
        DredgePond x = new DredgePond(20, 8);
        for (int row = 0; row < 20; row++) {
            for (int place = 0; place < 8; place++) {
                edge.due("at first " + row + ", " + place, x.square(row, place, 0), 3);
            }
        }
        for (int depth : new int[] {1, 2, 8, 9}) {
            edge.due("depth " + depth, x.depth(4, 4, depth), true);
            edge.due("depth " + depth + " told", x.square(4, 4, 0), depth);
        }
        edge.due("above is left, side is left", x.square(3, 4, 0) + x.square(4, 3, 0), 6);
        edge.due("below is left, side is left", x.square(5, 4, 0) + x.square(4, 5, 0), 6);
    }

    private void depthNotAsTold() {
        edge.sentence(2, "DEPTH of a SQUARE that isn't dug: true; false: not as told.");
        Scene busy = Scene.BUSY;
        edge.range("the DEPTH", busy, (x, n) -> Edge.one(x.depth(7, 2, n)), 1, 9, 0);
        edge.range("the ROW, dug ones beside", busy, (x, n) -> Edge.one(x.depth(n, 3, 8)), 0, 8, 0);
        edge.range("the PLACE", busy, (x, n) -> Edge.one(x.depth(8, n, 8)), 0, 3, 0);
        for (int[] at : Edge.noSquares(busy)) {
            edge.unchanged("depth(" + at[0] + ", " + at[1] + ", 8)", busy, x -> Edge.one(x.depth(at[0], at[1], 8)), 0);
        }
        edge.unchanged("the first dug, laid BACK", busy, x -> Edge.one(x.depth(0, 1, 8)), 0);
        edge.unchanged("where the DREDGE is", busy, x -> Edge.one(x.depth(5, 1, 8)), 0);
        edge.unchanged("dug, as deep as it is", busy, x -> Edge.one(x.depth(5, 1, 4)), 0);
        DredgePond x = busy.make();
        edge.due("beside the DREDGE", x.depth(5, 0, 8), true);
        edge.due("beside the DREDGE, told", x.square(5, 0, 0), 8);
        edge.due("the next ROW", x.depth(6, 1, 7), true);
        edge.due("the next ROW, told", x.square(6, 1, 0), 7);
        edge.due("a bored one", x.depth(6, 0, 2), true);
    }

    // ---- 3

    private void gradeAtFirst() {
        edge.sentence(3, "GRADE g (0 to 200; 1,000 at first):");
        DredgePond x = new DredgePond(3, 3);
        x.bore(0, 0, 0);
        x.bore(0, 2, 1000);
        edge.due("at first: least", x.square(0, 1, 1), 0);
        edge.due("at first: greatest", x.square(0, 1, 2), 1000);
        edge.due("at first: no QUARREL", x.count(10), 0);
        edge.due("200", x.grade(200), true);
        edge.due("200: least", x.square(0, 1, 1), 800);
        edge.due("200: greatest", x.square(0, 1, 2), 200);
        edge.due("0", x.grade(0), true);
        edge.due("0: least", x.square(2, 1, 1), 1000);
        edge.due("0: greatest", x.square(2, 1, 2), 0);
        edge.due("1", x.grade(1), true);
        edge.due("1: least", x.square(2, 1, 1), 997);
        edge.due("1: greatest", x.square(2, 1, 2), 3);
        edge.due("1,000 again", x.grade(1000), true);
        edge.alike("1,000 again is as at first", new Scene(3, 3, y -> y.bore(1, 1, 7)), new Scene(3, 3, y -> {
            y.grade(5);
            y.bore(1, 1, 7);
            y.grade(1000);
        }));
    }

    private void gradeAnother() {
        edge.sentence(3, "GRADE (0 to 200, or 1,000): true; false: another one.");
        edge.range("GRADE", Scene.BUSY, (x, n) -> Edge.one(x.grade(n)), 0, 200, 0);
        edge.range("GRADE", Scene.FRESH, (x, n) -> Edge.one(x.grade(n)), 0, 200, 0);
        for (int g : new int[] {500, 800, 999, 1001, 1000 + (1 << 16), -1000}) {
            edge.unchanged("grade(" + g + ")", Scene.BUSY, x -> Edge.one(x.grade(g)), 0);
        }
        edge.due("1,000", Scene.BUSY.make().grade(1000), true);
    }

    private void gradeBesideBySides() {
        edge.sentence(3, "SQUARES beside one another (by a side) differ by g at most in TIN"
            + " (as told; 1,000: nothing is known of that).");
        DredgePond x = new DredgePond(3, 3);
        x.grade(200);
        x.bore(1, 1, 500);
        int[][] sides = {{0, 1}, {2, 1}, {1, 0}, {1, 2}};
        for (int[] at : sides) {
            edge.due("by a side: least", x.square(at[0], at[1], 1), 300);
            edge.due("by a side: greatest", x.square(at[0], at[1], 2), 700);
        }
        int[][] corners = {{0, 0}, {0, 2}, {2, 0}, {2, 2}};
        for (int[] at : corners) {
            edge.due("by a corner: least", x.square(at[0], at[1], 1), 100);
            edge.due("by a corner: greatest", x.square(at[0], at[1], 2), 900);
        }
        x.grade(1000);
        for (int[] at : sides) {
            edge.due("nothing is known: least", x.square(at[0], at[1], 1), 0);
            edge.due("nothing is known: greatest", x.square(at[0], at[1], 2), 1000);
        }
    }

    // ---- 4

    private void tinAtFirst() {
        edge.sentence(4, "and TIN 0 to 1,000 for each of it, not known at first.");
        DredgePond x = new DredgePond(2, 2);
        edge.due("not known at first", x.square(1, 1, 6), 0);
        edge.due("0 at least", x.square(1, 1, 1), 0);
        edge.due("1,000 at most", x.square(1, 1, 2), 1000);
        for (int tin : new int[] {0, 1, 999, 1000}) {
            edge.due("tin " + tin, x.bore(1, 1, tin), true);
            edge.due("tin " + tin + " is known", x.square(1, 1, 6), 1);
            edge.due("tin " + tin + " is the least", x.square(1, 1, 1), tin);
            edge.due("tin " + tin + " is the greatest", x.square(1, 1, 2), tin);
        }
    }

    private void boreNotAsTold() {
        edge.sentence(4, "A BORE of a SQUARE that isn't dug: true; false: not as told.");
        Scene busy = Scene.BUSY;
        edge.range("the TIN", busy, (x, n) -> Edge.one(x.bore(7, 2, n)), 0, 1000, 0);
        edge.range("the ROW, dug ones beside", busy, (x, n) -> Edge.one(x.bore(n, 3, 77)), 0, 8, 0);
        edge.range("the PLACE", busy, (x, n) -> Edge.one(x.bore(8, n, 77)), 0, 3, 0);
        edge.range("the TIN where one is bored", busy, (x, n) -> Edge.one(x.bore(6, 0, n)), 0, 1000, 0);
        for (int[] at : Edge.noSquares(busy)) {
            edge.unchanged("bore(" + at[0] + ", " + at[1] + ", 7)", busy, x -> Edge.one(x.bore(at[0], at[1], 7)), 0);
        }
        edge.unchanged("the first dug, laid BACK", busy, x -> Edge.one(x.bore(0, 1, 7)), 0);
        edge.unchanged("where the DREDGE is", busy, x -> Edge.one(x.bore(5, 1, 7)), 0);
        DredgePond x = busy.make();
        edge.due("beside the DREDGE", x.bore(5, 2, 7), true);
        edge.due("beside the DREDGE, told", x.square(5, 2, 2), 7);
        edge.due("the next ROW", x.bore(6, 1, 8), true);
        edge.due("the next ROW, told", x.square(6, 1, 2), 8);
    }

    // ---- 5

    private void boresAndFound() {
        edge.sentence(5, "BORES tell a SQUARE's TIN; so does digging it (FOUND).");
        DredgePond x = new DredgePond(3, 3);
        x.grade(10);
        x.bore(0, 0, 500);
        edge.due("a BORE tells", x.square(0, 0, 6), 1);
        edge.due("the next is not told", x.square(0, 1, 6), 0);
        x.dig(1, 0);
        edge.due("FOUND 0 tells", x.square(0, 1, 6), 1);
        edge.due("FOUND 0: least", x.square(0, 1, 1), 0);
        edge.due("FOUND 0: greatest", x.square(0, 1, 2), 0);
        edge.due("FOUND narrows others", x.square(1, 1, 2), 10);
        edge.due("the next ROW is not told", x.square(1, 1, 6), 0);
        x.dig(1, 1000);
        edge.due("FOUND 1,000: least", x.square(1, 1, 1), 1000);
        edge.due("FOUND 1,000 narrows others", x.square(2, 1, 1), 990);
    }

    private void spanOverTheWholeGround() {
        edge.sentence(5, "SPAN of a SQUARE: of all BORES and FOUND ones t at a way of n sides (the ground whole):");
        DredgePond x = new DredgePond(20, 8);
        x.grade(1);
        x.bore(0, 0, 500);
        edge.due("from one corner to the other: least", x.square(19, 7, 1), 500 - 26);
        edge.due("from one corner to the other: greatest", x.square(19, 7, 2), 500 + 26);
        edge.due("along the ROWS", x.square(19, 0, 1), 500 - 19);
        edge.due("along the PLACES", x.square(0, 7, 1), 500 - 7);
        DredgePond y = new DredgePond(20, 8);
        y.grade(1);
        y.bore(19, 0, 500);
        edge.due("the other way", y.square(0, 7, 2), 500 + 26);
        edge.due("up by 1 and over by 7", y.square(18, 7, 2), 500 + 8);
        DredgePond z = new DredgePond(4, 2);
        z.grade(50);
        z.bore(0, 0, 400);
        z.bore(1, 0, 430);
        z.bore(1, 1, 420);
        z.dig(1, 390);
        // the way from ROW 0 to ROW 3 leads over told and dug SQUARES all the same
        edge.due("of all, the greatest least", z.square(2, 0, 1), 380);
        edge.due("of all, the least greatest", z.square(2, 0, 2), 480);
        z.bore(1, 0, 800);
        z.bore(1, 1, 800);
        edge.due("over told ones: greatest", z.square(3, 1, 2), 390 + 3 * 50);
        edge.due("over told ones: least", z.square(3, 1, 1), 800 - 2 * 50);
    }

    private void spanZeroAtLeast() {
        edge.sentence(5, "from the greatest of t less n g (0 at least)");
        DredgePond x = new DredgePond(2, 8);
        x.grade(50);
        x.bore(0, 0, 101);
        edge.due("just above", x.square(0, 2, 1), 1);
        edge.due("would be below", x.square(0, 3, 1), 0);
        x.bore(0, 0, 100);
        edge.due("just 0", x.square(0, 2, 1), 0);
        x.bore(0, 0, 99);
        edge.due("would be -1", x.square(0, 2, 1), 0);
        x.bore(0, 0, 0);
        edge.due("of 0", x.square(1, 7, 1), 0);
        x.bore(0, 7, 300);
        edge.due("the greatest of two", x.square(0, 3, 1), 100);
        edge.due("the farther gives none", x.square(0, 1, 1), 0);
    }

    private void spanThousandAtMost() {
        edge.sentence(5, "to the least of t and n g (1,000 at most);");
        DredgePond x = new DredgePond(2, 8);
        x.grade(50);
        x.bore(0, 0, 899);
        edge.due("just below", x.square(0, 2, 2), 999);
        edge.due("would be above", x.square(0, 3, 2), 1000);
        x.bore(0, 0, 900);
        edge.due("just 1,000", x.square(0, 2, 2), 1000);
        x.bore(0, 0, 901);
        edge.due("would be 1,001", x.square(0, 2, 2), 1000);
        x.bore(0, 0, 1000);
        edge.due("of 1,000", x.square(1, 7, 2), 1000);
        x.bore(0, 7, 700);
        edge.due("the least of two", x.square(0, 3, 2), 900);
        edge.due("the farther gives none", x.square(0, 1, 2), 1000);
    }

    private void spanOfToldOnes() {
        edge.sentence(5, "one that is told itself: just that, the latest.");
        DredgePond x = new DredgePond(3, 2);
        x.grade(10);
        x.bore(0, 0, 100);
        x.bore(0, 1, 900);
        edge.due("not what the next one says: least", x.square(0, 0, 1), 100);
        edge.due("not what the next one says: greatest", x.square(0, 1, 2), 900);
        x.bore(0, 0, 200);
        edge.due("the latest BORE, higher", x.square(0, 0, 1), 200);
        x.bore(0, 0, 50);
        edge.due("the latest BORE, lower", x.square(0, 0, 2), 50);
        x.dig(0, 777);
        edge.due("FOUND is the latest: least", x.square(0, 0, 1), 777);
        edge.due("FOUND is the latest: greatest", x.square(0, 0, 2), 777);
        edge.due("no QUARREL of its own", x.square(0, 0, 3), 0);
    }

    private void quarrel() {
        edge.sentence(5, "Where the least would be above the greatest: both are as they are,"
            + " and the SQUARE is in QUARREL.");
        DredgePond x = new DredgePond(2, 3);
        x.grade(10);
        x.bore(0, 0, 100);
        x.bore(0, 2, 119);
        edge.due("below", x.square(0, 1, 2) - x.square(0, 1, 1), 1);
        edge.due("below: none", x.square(0, 1, 3), 0);
        x.bore(0, 2, 120);
        edge.due("just alike", x.square(0, 1, 2) - x.square(0, 1, 1), 0);
        edge.due("just alike: none", x.square(0, 1, 3), 0);
        x.bore(0, 2, 121);
        edge.due("above by 1: least", x.square(0, 1, 1), 111);
        edge.due("above by 1: greatest", x.square(0, 1, 2), 110);
        edge.due("above by 1: QUARREL", x.square(0, 1, 3), 1);
        edge.due("the told ones aren't", x.square(0, 0, 3) + x.square(0, 2, 3), 0);
        edge.due("count", x.count(10), 1);
        x.grade(0);
        x.bore(0, 0, 0);
        x.bore(0, 2, 1000);
        edge.due("all that can be: least", x.square(1, 1, 1), 1000);
        edge.due("all that can be: greatest", x.square(1, 1, 2), 0);
        edge.due("all that can be: count", x.count(10), 4);
        x.bore(0, 1, 3);
        edge.due("told, it has none", x.square(0, 1, 3), 0);
        edge.due("told, one less", x.count(10), 3);
    }

    private void squareNoneSuch() {
        edge.sentence(5, "Of a SQUARE: 0 DEPTH, 1 SPAN's least, 2 greatest, 3 whether it's in QUARREL (1),"
            + " 4 dug (1), 5 laid BACK (1), 6 bored or FOUND (1). NONE: none such.");
        Scene busy = Scene.BUSY;
        edge.range("what", busy, (x, n) -> x.square(3, 2, n), 0, 6, NONE);
        edge.range("the ROW", busy, (x, n) -> x.square(n, 2, 0), 0, 8, NONE);
        edge.range("the PLACE", busy, (x, n) -> x.square(3, n, 0), 0, 3, NONE);
        for (int[] at : Edge.noSquares(busy)) {
            for (int what = 0; what <= 6; what++) {
                edge.due("square(" + at[0] + ", " + at[1] + ", " + what + ")",
                    busy.make().square(at[0], at[1], what), NONE);
            }
        }
        // (1,2) lies beside 350 and 333, both FOUND; (8,3) beside 180 and 5 sides from 520, both bored
        int[][] due = {{0, 1, 5, 310, 310, 0, 1, 1, 1}, {1, 1, 2, 350, 350, 0, 1, 0, 1}, {1, 2, 3, 290, 393, 0, 0, 0, 0},
            {6, 0, 3, 520, 520, 0, 0, 0, 1}, {5, 1, 4, 444, 444, 0, 1, 0, 1}, {8, 3, 9, 220, 240, 0, 0, 0, 0}};
        DredgePond x = busy.make();
        for (int[] row : due) {
            for (int what = 0; what <= 6; what++) {
                edge.due(row[0] + ", " + row[1] + ", " + what, x.square(row[0], row[1], what), row[2 + what]);
            }
        }
        edge.unchanged("asking", busy, y -> y.square(6, 0, 1), 520);
    }
}
