/** The edges of promises 13, 19 and of the calls in all: DAYS that go by, fines, MONTHS. */
final class EdgesOfDays {
    private static final int NONE = DredgePond.NONE;
    private static final int MOST_CALLS = 512;

    private final Edge edge;

    EdgesOfDays(Edge edge) {
        this.edge = edge;
    }

    void all() {
        calls();
        pondAtFirst();
        daysToTheLast();
        dayNotAsTold();
        levelZeroToThousand();
        mudZeroAtLeast();
        finedBehindBackDays();
        finedUnlessLaidBack();
        finedOnceASquare();
        hoursAgain();
        monthOfThirtyDays();
        royaltyOfTheLastDay();
        monthNoneSuch();
    }

    private void calls() {
        edge.sentence(13, "An object is used for at most 512 calls after it has been made;");
        DredgePond x = new DredgePond(20, 8);
        for (int call = 1; call < MOST_CALLS; call++) {
            x.day(3);
        }
        edge.due("the 512th call", x.day(3), MOST_CALLS);
    }

    // ---- 13

    private void pondAtFirst() {
        edge.sentence(13, "THE POND: a level (100 at first, 0 to 1,000), mud (0 at first).");
        DredgePond x = new DredgePond(2, 2);
        edge.due("level", x.count(4), 100);
        edge.due("mud", x.count(5), 0);
        edge.due("100 can go", x.let(100), 0);
        edge.due("level", x.count(4), 0);
        for (int i = 0; i < 6; i++) {
            x.day(200);
        }
        edge.due("level", x.count(4), 1000);
    }

    private void daysToTheLast() {
        edge.sentence(13, "DAYS 0 to 600, TODAY is 0 at first;");
        DredgePond x = new DredgePond(2, 2);
        edge.due("at first", x.count(0), 0);
        for (int day = 1; day <= MOST_CALLS - 1; day++) {
            edge.due("TODAY", x.day(3), day);
        }
        edge.due("600 is the last", onTheLastDay().count(0), 600);
        edge.due("600 is the last", onTheLastDay().day(3), NONE);
    }

    /** It takes more calls than an object is promised for: the only way to see the last DAY at all. */
    private DredgePond onTheLastDay() {
        DredgePond x = new DredgePond(2, 2);
        Check.wait(x, 599);
        edge.due("599 is not the last", x.day(3), 600);
        return x;
    }

    private void dayNotAsTold() {
        edge.sentence(13, "A DAY goes by, with so much water (0 to 200): TODAY. NONE, doing nothing: not as told,"
            + " it's 600.");
        edge.range("the water", Scene.FRESH, (x, n) -> x.day(n), 0, 200, NONE);
        edge.range("the water", Scene.BUSY, (x, n) -> x.day(n), 0, 200, NONE);
        edge.range("the water", Scene.DRY, (x, n) -> x.day(n), 0, 200, NONE);
        edge.due("TODAY", Scene.FRESH.make().day(0), 1);
        edge.due("TODAY", Scene.BUSY.make().day(200), 6);
        edge.due("no ROW left is no matter", Scene.DONE.make().day(200), 1);
        DredgePond x = onTheLastDay();
        x.depth(0, 0, 5);
        x.dig(0, 10);
        edge.due("it's 600", x.day(200), NONE);
        edge.due("doing nothing to the level", x.count(4), 100);
        edge.due("doing nothing to the mud", x.count(5), 15);
        edge.due("doing nothing to the HOURS", x.count(3), 10);
        edge.due("doing nothing to TODAY", x.count(0), 600);
    }

    private void levelZeroToThousand() {
        edge.sentence(13, "As a DAY goes by: the level goes up by what is told (rain and stream) and down by 3 (leak),"
            + " 0 to 1,000;");
        int[][] low = {{0, 0, 0}, {0, 2, 0}, {0, 3, 0}, {0, 4, 1}, {1, 0, 0}, {2, 0, 0}, {3, 0, 0}, {4, 0, 1},
            {2, 1, 0}, {2, 2, 1}, {100, 3, 100}, {100, 200, 297}};
        for (int[] at : low) {
            DredgePond x = new DredgePond(2, 2);
            x.let(100 - at[0]);
            x.day(at[1]);
            edge.due("level " + at[0] + ", water " + at[1], x.count(4), at[2]);
        }
        int[][] high = {{999, 3, 999}, {999, 4, 1000}, {999, 5, 1000}, {1000, 3, 1000}, {1000, 4, 1000},
            {1000, 200, 1000}, {1000, 2, 999}, {1000, 0, 997}, {803, 200, 1000}, {802, 200, 999}, {804, 200, 1000}};
        for (int[] at : high) {
            DredgePond x = new DredgePond(2, 2);
            for (int i = 0; i < 5; i++) {
                x.day(200);
            }
            edge.due("the most at first", x.let(1000 - at[0]), at[0] < 1000 ? at[0] : NONE);
            x.day(at[1]);
            edge.due("level " + at[0] + ", water " + at[1], x.count(4), at[2]);
        }
    }

    private void mudZeroAtLeast() {
        edge.sentence(13, "mud goes down by 10 (0 at least);");
        int[][] due = {{1, 0}, {3, 0}, {4, 2}, {9, 17}};
        for (int[] at : due) {
            DredgePond x = new DredgePond(2, 2);
            x.depth(0, 0, at[0]);
            x.dig(0, 1);
            x.day(3);
            edge.due("of " + 3 * at[0], x.count(5), at[1]);
        }
        DredgePond y = new DredgePond(3, 2);
        y.depth(0, 0, 9);
        y.dig(0, 1);
        y.depth(1, 0, 1);
        y.dig(0, 1);
        int[] left = {20, 10, 0, 0};
        for (int mud : left) {
            y.day(3);
            edge.due("of 30, by 10", y.count(5), mud);
        }
    }

    private void finedBehindBackDays() {
        edge.sentence(13, "SQUARES dug more than BACK DAYS ago");
        int[][] backs = {{0, 1}, {1, 2}, {2, 3}, {30, 31}};
        for (int[] at : backs) {
            DredgePond x = new DredgePond(5, 2);
            Check.law(x, "back " + at[0] + "; fine 7;");
            x.dig(0, 1);
            for (int day = 0; day < at[1]; day++) {
                x.day(3);
                edge.due("back " + at[0] + ", DAY " + day + " has gone by", x.count(8), 0);
            }
            x.day(3);
            edge.due("back " + at[0] + ", DAY " + at[1] + " has gone by", x.count(8), 7);
        }
        DredgePond y = new DredgePond(5, 2);
        y.dig(0, 1);
        Check.wait(y, 31);
        edge.due("by the usual 30, DAY 30 has gone by", y.count(8), 0);
        y.day(3);
        edge.due("by the usual 30, DAY 31 has gone by", y.count(8), 10);
        DredgePond z = new DredgePond(5, 2);
        Check.law(z, "back 9999; fine 1;");
        z.dig(0, 1);
        Check.wait(z, 400);
        edge.due("9,999 don't go by", z.count(8), 0);
    }

    private void finedUnlessLaidBack() {
        edge.sentence(13, "that aren't laid BACK are fined FINE each,");
        // four dug on DAY 0, TODAY is 1: they are fined as it goes by
        Scene four = new Scene(9, 2, x -> {
            Check.law(x, "back 0; fine 5;");
            for (int row = 0; row < 4; row++) {
                x.depth(row, 0, 1);
                x.dig(0, 1);
            }
            x.day(3);
        });
        DredgePond all = four.make();
        all.day(3);
        edge.due("four", all.count(8), 20);
        DredgePond three = four.then(x -> x.back(0, 0)).make();
        three.day(3);
        edge.due("the first laid BACK in time", three.count(8), 15);
        DredgePond late = four.make();
        late.day(3);
        late.back(0, 0);
        late.day(3);
        edge.due("laid BACK too late: nothing is given again", late.count(8), 20);
        DredgePond none = four.then(x -> Check.law(x, "back 0; fine 0;")).make();
        none.day(3);
        edge.due("FINE 0", none.count(8), 0);
        DredgePond most = four.then(x -> Check.law(x, "back 0; fine 9999;")).make();
        most.day(3);
        edge.due("FINE 9,999", most.count(8), 4 * 9999);
        DredgePond nothing = new DredgePond(3, 3);
        Check.law(nothing, "back 0; fine 5;");
        Check.wait(nothing, 5);
        edge.due("nothing dug", nothing.count(8), 0);
    }

    private void finedOnceASquare() {
        edge.sentence(13, "once a SQUARE;");
        DredgePond x = new DredgePond(9, 2);
        Check.law(x, "back 0; fine 5;");
        x.dig(0, 1);
        Check.wait(x, 2);
        edge.due("once", x.count(8), 5);
        Check.wait(x, 20);
        edge.due("not again", x.count(8), 5);
        Check.law(x, "back 0; fine 9;");
        Check.wait(x, 5);
        edge.due("not by another law either", x.count(8), 5);
        x.dig(0, 1);
        Check.wait(x, 3);
        edge.due("another SQUARE", x.count(8), 14);
    }

    private void hoursAgain() {
        edge.sentence(13, "HOURS are 20 again.");
        DredgePond x = new DredgePond(4, 2);
        x.day(3);
        edge.due("of 20", x.count(3), 20);
        x.depth(0, 0, 9);
        x.depth(1, 0, 1);
        x.dig(0, 1);
        x.day(3);
        edge.due("of 2", x.count(3), 20);
        x.dig(0, 1);
        x.depth(2, 0, 9);
        x.dig(0, 1);
        edge.due("none left", x.count(3), 0);
        x.day(201);
        edge.due("a refused DAY", x.count(3), 0);
        x.day(3);
        edge.due("of 0", x.count(3), 20);
    }

    // ---- 19

    private void monthOfThirtyDays() {
        edge.sentence(19, "a MONTH is 30 DAYS.");
        int[][] due = {{0, 0}, {1, 0}, {29, 0}, {30, 1}, {59, 1}, {60, 2}, {449, 14}, {450, 15}};
        for (int[] at : due) {
            DredgePond x = new DredgePond(2, 2);
            x.jig(0);
            Check.wait(x, at[0]);
            x.dig(0, 100);
            for (int month = 0; month <= 20; month++) {
                edge.due("dug on DAY " + at[0] + ", MONTH " + month, x.month(month, 0), month == at[1] ? 300 : 0);
            }
        }
        DredgePond last = onTheLastDay();
        last.jig(0);
        last.dig(0, 100);
        edge.due("DAY 600 is of MONTH 20", last.month(20, 0), 300);
        edge.due("DAY 600 is of MONTH 20", last.month(20, 1), 15);
        edge.due("DAY 600 isn't of MONTH 19", last.month(19, 0), 0);
    }

    private void royaltyOfTheLastDay() {
        edge.sentence(19, "ROYALTY of a MONTH: what was BAGGED in it by the ROYALTY in force on its last DAY"
            + " by 1,000, cut.");
        int[][] cuts = {{0, 999, 0}, {1, 999, 0}, {1, 1000, 1}, {50, 19, 0}, {50, 20, 1}, {50, 39, 1}, {50, 40, 2},
            {1000, 7, 7}, {9999, 1, 9}, {9999, 1000, 9999}, {999, 1, 0}};
        for (int[] at : cuts) {
            DredgePond x = new DredgePond(2, 2);
            x.jig(0);
            x.depth(0, 0, 1);
            Check.law(x, "royalty " + at[0] + ";");
            x.dig(0, at[1]);
            edge.due("royalty " + at[0] + " of " + at[1], x.month(0, 1), at[2]);
        }
        int[][] days = {{28, 700}, {29, 700}, {30, 50}};
        for (int[] at : days) {
            DredgePond x = new DredgePond(3, 2);
            x.jig(0);
            x.depth(0, 0, 1);
            x.dig(0, 1000);
            Check.wait(x, at[0]);
            edge.due("the usual one, ahead of the law", x.month(0, 1), 50);
            Check.law(x, "royalty 700;");
            edge.due("the law comes on DAY " + at[0], x.month(0, 1), at[1]);
            edge.due("the next MONTH has nothing", x.month(1, 1), 0);
        }
        summed();
        mostRoyalty();
    }

    private void summed() {
        DredgePond x = new DredgePond(4, 2);
        x.jig(0);
        x.depth(0, 0, 1);
        x.depth(1, 0, 1);
        x.dig(0, 19);
        x.dig(0, 1);
        edge.due("cut in all, not for each SQUARE", x.month(0, 1), 1);
    }

    /** The greatest product that can be: 20 ROWS 9 deep with TIN 1,000, by 9,999. */
    private void mostRoyalty() {
        DredgePond x = new DredgePond(20, 2);
        x.jig(0);
        Check.law(x, "clear 9999; royalty 9999;");
        for (int row = 0; row < 20; row++) {
            x.depth(row, 0, 9);
            x.dig(0, 1000);
            x.day(3);
        }
        edge.due("the most BAGGED", x.month(0, 0), 180000);
        edge.due("the most ROYALTY", x.month(0, 1), 1799820);
    }

    private void monthNoneSuch() {
        edge.sentence(19, "Of a MONTH (0 to 20): BAGGED (0), ROYALTY (1). NONE: none such.");
        edge.range("the MONTH", Scene.BUSY, (x, n) -> x.month(n, 0), 0, 20, NONE);
        edge.range("the MONTH", Scene.BUSY, (x, n) -> x.month(n, 1), 0, 20, NONE);
        edge.range("what", Scene.BUSY, (x, n) -> x.month(0, n), 0, 1, NONE);
        edge.range("what, of the last MONTH", Scene.FRESH, (x, n) -> x.month(20, n), 0, 1, NONE);
        edge.due("neither", Scene.BUSY.make().month(21, 2), NONE);
        edge.unchanged("asking", Scene.BUSY, x -> x.month(20, 1), 0);
    }
}
