/** The edges of promises 6 to 8: COST, the PATH that is worth most, what to bore next. */
final class EdgesOfPaths {
    private static final int NONE = DredgePond.NONE;
    private static final int NO_PATH = -100000000;

    private final Edge edge;

    EdgesOfPaths(Edge edge) {
        this.edge = edge;
    }

    void all() {
        costAtFirst();
        costAnother();
        worth();
        pathFromTheDredgeToTheLastRow();
        pathAtMostOneBeside();
        pathByTheEndsOfSpans();
        pathLeastPlaceFirst();
        pathSumAndPlaces();
        pathNoneSuch();
        nextWidest();
        nextLeastRowThenPlace();
        nextNone();
    }

    // ---- 6

    private void costAtFirst() {
        edge.sentence(6, "COST 0 to 1,000 (100 at first).");
        DredgePond x = new DredgePond(2, 2);
        x.grade(0);
        x.bore(0, 0, 100);
        edge.due("at first", x.path(0, NONE), 0);
        for (int c : new int[] {0, 1, 999, 1000}) {
            edge.due("cost " + c, x.cost(c), true);
            edge.due("cost " + c + " told", x.path(0, NONE), 6 * (100 - c));
        }
    }

    private void costAnother() {
        edge.sentence(6, "COST: true; false: another one.");
        edge.range("COST", Scene.BUSY, (x, n) -> Edge.one(x.cost(n)), 0, 1000, 0);
        edge.range("COST", Scene.FRESH, (x, n) -> Edge.one(x.cost(n)), 0, 1000, 0);
    }

    // ---- 7

    private void worth() {
        edge.sentence(7, "WORTH of a SQUARE: DEPTH times (its TIN less COST);");
        DredgePond x = new DredgePond(2, 2);
        x.grade(0);
        x.bore(0, 0, 500);
        x.cost(499);
        edge.due("above the COST by 1", x.path(0, NONE), 6);
        x.cost(500);
        edge.due("just the COST", x.path(0, NONE), 0);
        x.cost(501);
        edge.due("below the COST by 1", x.path(0, NONE), -6);
        x.depth(0, 0, 1);
        x.depth(1, 0, 9);
        edge.due("the DEPTH 3 costs less than 9", x.path(0, NONE), -1 - 3);
        x.cost(499);
        edge.due("the DEPTH 9 is worth more than 3", x.path(0, NONE), 3 + 9);
        edge.due("the most", extreme(1000, 0), 20 * 9 * 1000);
        edge.due("the least", extreme(0, 1000), -20 * 9 * 1000);
    }

    private static int extreme(int tin, int cost) {
        DredgePond x = new DredgePond(20, 2);
        x.grade(0);
        x.bore(0, 0, tin);
        x.cost(cost);
        for (int row = 0; row < 20; row++) {
            x.depth(row, 0, 9);
            x.depth(row, 1, 9);
        }
        return x.path(2, NONE);
    }

    private void pathFromTheDredgeToTheLastRow() {
        edge.sentence(7, "PATH from the SQUARE where the DREDGE is (ahead of the first: any PLACE of ROW 0)"
            + " to the last ROW, ROW by ROW,");
        for (int place = 0; place < 8; place++) {
            DredgePond x = new DredgePond(20, 8);
            x.bore(0, place, 1000);
            edge.due("any PLACE: " + place, x.path(0, 0), place);
        }
        DredgePond x = new DredgePond(3, 3);
        x.cost(0);
        x.bore(0, 1, 900);
        x.bore(2, 2, 10);
        edge.due("the first and the last ROW", x.path(0, NONE), 3 * 910);
        x.dig(0, 900);
        edge.due("the SQUARE where it is doesn't count", x.path(0, NONE), 30);
        edge.due("the next", x.path(0, 0), 1);
        edge.due("the last", x.path(0, 1), 2);
        x.dig(0, 0);
        edge.due("the last ROW alone", x.path(0, NONE), 0);
        x.bore(2, 1, 4);
        edge.due("the last ROW alone", x.path(0, NONE), 12);
    }

    private void pathAtMostOneBeside() {
        edge.sentence(7, "each PLACE at most 1 beside the one ahead:");
        int[][] fromTo = {{2, 0, 0}, {2, 1, 1}, {2, 2, 1}, {2, 3, 1}, {2, 4, 0}, {0, 0, 1}, {0, 1, 1}, {0, 2, 0},
            {4, 2, 0}, {4, 3, 1}, {4, 4, 1}};
        for (int[] at : fromTo) {
            String told = at[0] + " to " + at[1];
            DredgePond one = new DredgePond(2, 5);
            one.cost(0);
            one.bore(0, at[0], 1000);
            one.bore(1, at[1], 100);
            edge.due(told + ", ahead of the first", one.path(0, NONE), 3000 + 300 * at[2]);
            one.dig(at[0], 1);
            edge.due(told + ", from the DREDGE", one.path(0, NONE), 300 * at[2]);
        }
        DredgePond x = new DredgePond(2, 5);
        x.bore(1, 3, 500);
        x.bore(1, 4, 1000);
        x.dig(2, 1);
        edge.due("not the better one 2 beside", x.path(0, 0), 3);
        // the sides of the ground: no PLACE of the ROW above or below is beside the first or the last
        DredgePond y = new DredgePond(3, 3);
        y.cost(0);
        y.bore(0, 2, 1000);
        y.bore(1, 0, 500);
        edge.due("the ground has sides", y.path(0, NONE), 3000);
        y.bore(0, 2, 400);
        edge.due("the better of two", y.path(0, NONE), 1500);
    }

    private void pathByTheEndsOfSpans() {
        edge.sentence(7, "the greatest sum of WORTHS, by the SPANS' least (way 0), greatest (1),"
            + " middle (2: both by 2, cut) ends;");
        DredgePond x = new DredgePond(2, 2);
        x.cost(0);
        x.bore(0, 0, 0);
        x.bore(0, 1, 0);
        x.bore(1, 1, 0);
        x.grade(101);
        edge.due("0 to 101: least", x.path(0, NONE), 0);
        edge.due("0 to 101: greatest", x.path(1, NONE), 3 * 101);
        edge.due("0 to 101: middle, cut", x.path(2, NONE), 3 * 50);
        x.grade(102);
        edge.due("0 to 102: middle", x.path(2, NONE), 3 * 51);
        x.grade(100);
        x.bore(0, 0, 301);
        x.bore(0, 1, 301);
        x.bore(1, 1, 299);
        edge.due("201 to 399: least is below 299", x.path(0, NONE), 3 * (301 + 299));
        edge.due("201 to 399: greatest", x.path(1, NONE), 3 * (301 + 399));
        edge.due("201 to 399: middle", x.path(2, NONE), 3 * (301 + 300));
        edge.due("201 to 399: by the middle", x.path(2, 1), 0);
        edge.due("201 to 399: by the least", x.path(0, 1), 1);
        inQuarrel();
    }

    private void inQuarrel() {
        DredgePond x = new DredgePond(2, 2);
        x.cost(0);
        x.grade(0);
        x.depth(1, 0, 9);
        x.bore(0, 0, 1);
        x.bore(0, 1, 4);
        x.bore(1, 1, 4);
        edge.due("in QUARREL: the least is 4", x.path(0, NONE), 3 * 4 + 9 * 4);
        edge.due("in QUARREL: the greatest is 1", x.path(1, NONE), 3 * 4 + 3 * 4);
        edge.due("in QUARREL: the middle is 2, cut", x.path(2, NONE), 3 * 4 + 9 * 2);
    }

    private void pathLeastPlaceFirst() {
        edge.sentence(7, "of several the least PLACE first, then next, and so on.");
        places("all alike", new DredgePond(4, 3), 0, 0, 0, 0);
        DredgePond x = new DredgePond(4, 4);
        x.bore(3, 3, 101);
        places("one to the end, as late as can be", x, 0, 1, 2, 3);
        x.bore(0, 1, 101);
        places("the first is better by 1", x, 1, 1, 2, 3);
        x.bore(0, 2, 101);
        places("the least of two first", x, 1, 1, 2, 3);
        x.bore(0, 1, 100);
        x.bore(0, 0, 0);
        places("then the next", x, 2, 1, 2, 3);
        DredgePond y = new DredgePond(3, 3);
        y.bore(1, 0, 500);
        y.bore(2, 2, 500);
        places("an earlier PLACE goes above a later one", y, 0, 0, 0);
        y.bore(2, 2, 501);
        places("a greater sum goes above a lesser PLACE", y, 0, 1, 2);
        y.depth(0, 0, 9);
        y.bore(1, 0, 501);
        places("from PLACE 1, both sums alike: the least of the next ROW", y, 1, 0, 0);
    }

    private void places(String told, DredgePond x, int... due) {
        for (int k = 0; k < due.length; k++) {
            edge.due(told + ", " + k, x.path(0, k), due[k]);
        }
    }

    private void pathSumAndPlaces() {
        edge.sentence(7, "PATH by a way: its sum (k NONE), the PLACE in the k-th ROW of it"
            + " (k 0: the next ROW to be dug).");
        Scene busy = Scene.BUSY;
        edge.range("the way", busy, (x, n) -> x.path(n, 0), 0, 2, NO_PATH);
        // ROWS 6, 7 and 8 are left
        edge.range("k", busy, (x, n) -> x.path(0, n), NONE, 2, NO_PATH);
        edge.range("k", Scene.FRESH, (x, n) -> x.path(1, n), NONE, 3, NO_PATH);
        DredgePond x = new DredgePond(3, 4);
        x.bore(0, 3, 500);
        x.bore(1, 2, 500);
        x.bore(2, 1, 500);
        edge.due("k NONE", x.path(0, -1), 3 * 3 * 400);
        places("of all ROWS", x, 3, 2, 1);
        x.dig(3, 500);
        edge.due("k NONE", x.path(0, -1), 2 * 3 * 400);
        places("k 0 is the next to be dug", x, 2, 1, NO_PATH);
        x.dig(2, 500);
        places("the last ROW", x, 1, NO_PATH);
    }

    private void pathNoneSuch() {
        edge.sentence(7, "-100000000: none such, no ROW is left.");
        edge.unchanged("no ROW is left, the sum", Scene.DONE, x -> x.path(0, NONE), NO_PATH);
        edge.unchanged("no ROW is left, a PLACE", Scene.DONE, x -> x.path(2, 0), NO_PATH);
        edge.unchanged("no such way and no such ROW", Scene.BUSY, x -> x.path(3, 3), NO_PATH);
        edge.due("one ROW is left", oneLeft().path(0, NONE) != NO_PATH, true);
        edge.due("one ROW is left", oneLeft().path(0, 0), 0);
        edge.due("one ROW is left", oneLeft().path(0, 1), NO_PATH);
        edge.unchanged("asking", Scene.BUSY, x -> x.path(2, 3), NO_PATH);
    }

    private static DredgePond oneLeft() {
        DredgePond x = new DredgePond(2, 2);
        x.dig(0, 1);
        return x;
    }

    // ---- 8

    private void nextWidest() {
        edge.sentence(8, "The SQUARE not told by which the SPAN is widest, of those in ROWS not dug so far;");
        DredgePond x = new DredgePond(2, 4);
        x.grade(1);
        x.bore(0, 0, 500);
        edge.due("the farthest", x.next(), 8 + 3);
        x.bore(1, 3, 500);
        x.bore(0, 3, 500);
        x.bore(1, 0, 500);
        // all four left are 1 from a told one
        edge.due("all alike", x.next(), 1);
        x.bore(0, 3, 502);
        // (1,1) is 499 to 501; (0,1), (0,2) and (1,2) are 500 to 501, 501 to 502, 500 to 501
        edge.due("wider by 1", x.next(), 8 + 1);
        x.bore(1, 1, 500);
        edge.due("not a told one", x.next(), 1);
        DredgePond y = new DredgePond(3, 3);
        y.grade(1);
        y.bore(2, 2, 500);
        edge.due("ROW 0 isn't dug", y.next(), 0);
        y.dig(2, 500);
        edge.due("ROW 0 is dug: not (0,0)", y.next(), 8);
    }

    private void nextLeastRowThenPlace() {
        edge.sentence(8, "of several the least ROW, then PLACE: 8 times the ROW and the PLACE.");
        DredgePond x = new DredgePond(20, 8);
        edge.due("all alike", x.next(), 0);
        for (int row = 0; row < 20; row++) {
            for (int place = 0; place < 8; place++) {
                edge.due("one after the other", x.next(), 8 * row + place);
                x.bore(row, place, 500);
            }
        }
        edge.due("behind the last, 8 times 19 and 7", x.next(), NONE);
        DredgePond y = new DredgePond(3, 2);
        y.bore(0, 0, 1);
        y.bore(0, 1, 1);
        edge.due("8 times the ROW, with 2 PLACES", y.next(), 8);
        y.bore(1, 0, 1);
        edge.due("8 times the ROW, and the PLACE", y.next(), 9);
        y.bore(1, 1, 1);
        edge.due("8 times the last ROW", y.next(), 16);
    }

    private void nextNone() {
        edge.sentence(8, "NONE: none.");
        edge.unchanged("no ROW is left", Scene.DONE, DredgePond::next, NONE);
        Scene allTold = new Scene(2, 2, x -> {
            x.dig(0, 5);
            x.bore(1, 0, 5);
            x.bore(1, 1, 5);
        });
        edge.due("(0,1) isn't told, but in a ROW that is dug", allTold.make().square(0, 1, 6), 0);
        edge.unchanged("all of the ROW that is left is told", allTold, DredgePond::next, NONE);
        DredgePond x = new DredgePond(2, 2);
        x.dig(0, 5);
        x.bore(1, 0, 5);
        edge.due("one is left", x.next(), 9);
        x.grade(0);
        edge.due("one is left, as narrow as can be", x.next(), 9);
        edge.unchanged("asking", Scene.BUSY, DredgePond::next, Scene.BUSY.make().next());
    }
}
