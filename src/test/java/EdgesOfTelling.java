/** The edges of promises 17 and 20: the latest FAULT, the counts. */
final class EdgesOfTelling {
    private static final int NONE = DredgePond.NONE;

    private final Edge edge;

    EdgesOfTelling(Edge edge) {
        this.edge = edge;
    }

    void all() {
        latestFault();
        countNoneForOthers();
        countsAtFirst();
        countsToTheirMost();
    }

    // ---- 17

    private void latestFault() {
        edge.sentence(17, "The FAULT's place of the latest law() that was a number or NONE; NONE: it had none.");
        DredgePond x = new DredgePond(2, 2);
        edge.due("no law() so far", x.fault(), NONE);
        x.law(1);
        edge.due("-2 so far", x.fault(), NONE);
        Check.law(x, "fine 1");
        edge.due("a FAULT", x.fault(), 6);
        edge.due("asked again", x.fault(), 6);
        Check.feed(x, "fine 1;");
        edge.due("feed() leaves it", x.fault(), 6);
        x.law(21);
        x.law(-1);
        edge.due("-2 leaves it", x.fault(), 6);
        x.law(20);
        edge.due("a number: none", x.fault(), NONE);
        Check.law(x, "x");
        edge.due("the least place", x.fault(), 0);
        Check.law(x, "  x");
        edge.due("the latest of two", x.fault(), 2);
        for (int number = 1; number < 10; number++) {
            x.law(0);
        }
        Check.feed(x, "x");
        edge.due("there are 10", x.law(1), -3);
        edge.due("-3 leaves it", x.fault(), NONE);
        edge.unchanged("asking", Scene.BUSY, DredgePond::fault, 12);
        edge.unchanged("-2", Scene.BUSY, y -> y.law(41), -2);
        edge.unchanged("-3", Scene.TEN_LAWS, y -> y.law(1), -3);
    }

    // ---- 20

    private void countNoneForOthers() {
        edge.sentence(20, "NONE for others.");
        edge.range("what", Scene.BUSY, (x, n) -> x.count(n), 0, 12, NONE);
        edge.unchanged("asking", Scene.BUSY, x -> x.count(12), 40);
    }

    private void countsAtFirst() {
        edge.sentence(20, "0 TODAY, 1 ROW where the DREDGE is (NONE ahead of the first), 2 its PLACE, 3 HOURS left,"
            + " 4 level, 5 mud, 6 BAGGED in all, 7 TIN lost by the jig, 8 FINES, 9 SQUARES laid BACK,"
            + " 10 SQUARES in QUARREL, 11 LAWS, 12 bytes on the tape.");
        int[] first = {0, NONE, NONE, 20, 100, 0, 0, 0, 0, 0, 0, 0, 0};
        counts("at first", Scene.FRESH.make(), first);
        // BAGGED of 310 at 5, 350 at 2, 333, 280 and 400 at 3, 444 at 4, less 12 hundredths of each, cut
        int bagged = 1550 - 186 + 700 - 84 + 999 - 119 + 840 - 100 + 1200 - 144 + 1776 - 213;
        int lost = 186 + 84 + 119 + 100 + 144 + 213;
        int[] busy = {5, 5, 1, 12, 102, 12, bagged, lost, 21, 1, 0, 2, 40};
        DredgePond x = Scene.BUSY.make();
        int quarrels = 0;
        for (int row = 0; row < 9; row++) {
            for (int place = 0; place < 4; place++) {
                quarrels += x.square(row, place, 3);
            }
        }
        busy[10] = quarrels;
        counts("busy", x, busy);
        edge.due("some are in QUARREL, some not", quarrels > 0 && quarrels < 30, true);
        int[] done = {0, 4, 1, 10, 100, 15, 96 + 192 + 288 + 384, 40, 0, 1, 0, 0, 0};
        counts("no ROW left", Scene.DONE.make(), done);
    }

    private void counts(String told, DredgePond x, int[] due) {
        for (int what = 0; what < due.length; what++) {
            edge.due(told + ": " + what, x.count(what), due[what]);
        }
    }

    private void countsToTheirMost() {
        edge.sentence(20, "10 SQUARES in QUARREL,");
        DredgePond x = new DredgePond(20, 8);
        x.grade(0);
        x.bore(0, 0, 0);
        edge.due("one told", x.count(10), 0);
        x.bore(19, 7, 1);
        edge.due("two told: all the others", x.count(10), 158);
        x.grade(1000);
        edge.due("nothing is known", x.count(10), 0);
        DredgePond corners = new DredgePond(2, 2);
        corners.grade(0);
        corners.bore(0, 1, 0);
        corners.bore(1, 0, 1);
        edge.due("the first and the last SQUARE", corners.count(10), 2);
        edge.sentence(20, "9 SQUARES laid BACK,");
        DredgePond y = new DredgePond(20, 8);
        for (int row = 0; row < 20; row++) {
            y.dig(0, 1);
            y.day(3);
        }
        for (int row = 0; row < 20; row++) {
            y.back(row, 0);
        }
        edge.due("all but the last three", y.count(9), 17);
    }
}
