/** Each promise of the document by itself: ordinary inputs, the edges that it names, wrong inputs. */
public final class PromiseTests {
    private static final int NONE = DredgePond.NONE;
    private static final int NO_PATH = -100000000;
    private static final int LOW = Integer.MIN_VALUE;
    private static final int HIGH = Integer.MAX_VALUE;
    private static final Check check = new Check();

    private static void due(String call, int got, int want) {
        check.due(call, got, want);
    }

    private static void due(String call, boolean got, boolean want) {
        check.due(call, got, want);
    }

    public static void main(String[] args) {
        newObject();
        newObjectHeldToItsSizes();
        depth();
        depthOfDug();
        grade();
        bore();
        boreOfDug();
        spanByTheNearestTold();
        spanHeldToItsEnds();
        quarrel();
        squareOfDug();
        cost();
        pathByWays();
        pathOfSeveralTheLeastPlace();
        pathFromTheDredge();
        next();
        nextInQuarrel();
        barsNotAsTold();
        barsByLevel();
        barsByBank();
        barsByHours();
        barsByMud();
        barsTheFirst();
        dig();
        digNotAsTold();
        jig();
        let();
        letFined();
        day();
        dayHoldsTheLevel();
        dayFines();
        dayFinesByTheLawOfTheDay();
        lastDay();
        back();
        feed();
        law();
        lawNotAsTold();
        lawsFull();
        lawTexts();
        faults();
        faultOfStatements();
        faultStays();
        tells();
        month();
        royaltyOfTheLastDay();
        count();
        check.close();
    }

    // ---- 1

    private static void newObject() {
        DredgePond x = new DredgePond(4, 3);
        due("1 last square", x.square(3, 2, 0), 3);
        due("1 row too many", x.square(4, 0, 0), NONE);
        due("1 place too many", x.square(0, 3, 0), NONE);
        int[] due = {0, NONE, NONE, 20, 100, 0, 0, 0, 0, 0, 0, 0, 0};
        for (int what = 0; what < due.length; what++) {
            due("1 count " + what, x.count(what), due[what]);
        }
        due("1 NONE", NONE, -1);
        due("1 fault", x.fault(), NONE);
    }

    private static void newObjectHeldToItsSizes() {
        int[][] told = {{1, 1}, {0, -5}, {LOW, LOW}, {2, 2}, {3, 8}, {20, 8}, {21, 9}, {HIGH, HIGH}, {LOW, HIGH}};
        int[][] held = {{2, 2}, {2, 2}, {2, 2}, {2, 2}, {3, 8}, {20, 8}, {20, 8}, {20, 8}, {2, 8}};
        for (int i = 0; i < told.length; i++) {
            DredgePond x = new DredgePond(told[i][0], told[i][1]);
            int rows = held[i][0];
            int places = held[i][1];
            due("1 held last " + i, x.square(rows - 1, places - 1, 0), 3);
            due("1 held rows " + i, x.square(rows, places - 1, 0), NONE);
            due("1 held places " + i, x.square(rows - 1, places, 0), NONE);
            due("1 held path " + i, x.path(0, rows - 1), 0);
            due("1 held path " + i, x.path(0, rows), NO_PATH);
        }
    }

    // ---- 2

    private static void depth() {
        DredgePond x = new DredgePond(4, 3);
        due("2 depth", x.depth(1, 2, 9), true);
        due("2 told", x.square(1, 2, 0), 9);
        due("2 beside", x.square(1, 1, 0), 3);
        due("2 least", x.depth(1, 2, 1), true);
        due("2 least told", x.square(1, 2, 0), 1);
        due("2 too deep", x.depth(1, 2, 10), false);
        due("2 too shallow", x.depth(1, 2, 0), false);
        due("2 below", x.depth(1, 2, LOW), false);
        due("2 above", x.depth(1, 2, HIGH), false);
        due("2 row below", x.depth(-1, 2, 4), false);
        due("2 row above", x.depth(4, 2, 4), false);
        due("2 place below", x.depth(1, -1, 4), false);
        due("2 place above", x.depth(1, 3, 4), false);
        due("2 far", x.depth(LOW, HIGH, 4), false);
        due("2 still", x.square(1, 2, 0), 1);
        due("2 neighbours still", x.square(1, 0, 0) + x.square(2, 0, 0), 6);
    }

    private static void depthOfDug() {
        DredgePond x = new DredgePond(4, 3);
        x.dig(1, 10);
        due("2 dug", x.depth(0, 1, 5), false);
        due("2 dug still", x.square(0, 1, 0), 3);
        due("2 passed but not dug", x.depth(0, 0, 5), true);
        due("2 passed told", x.square(0, 0, 0), 5);
    }

    // ---- 3

    private static void grade() {
        DredgePond x = new DredgePond(4, 3);
        x.bore(0, 0, 500);
        due("3 at first nothing is known", x.square(0, 1, 1), 0);
        due("3 at first nothing is known", x.square(0, 1, 2), 1000);
        due("3 most", x.grade(200), true);
        due("3 most least", x.square(0, 1, 1), 300);
        due("3 most greatest", x.square(0, 1, 2), 700);
        due("3 above", x.grade(201), false);
        due("3 below", x.grade(-1), false);
        due("3 999", x.grade(999), false);
        due("3 1001", x.grade(1001), false);
        due("3 far", x.grade(LOW), false);
        due("3 far", x.grade(HIGH), false);
        due("3 still", x.square(0, 1, 1), 300);
        due("3 none", x.grade(0), true);
        due("3 all alike", x.square(3, 2, 1), 500);
        due("3 all alike", x.square(3, 2, 2), 500);
        due("3 not known again", x.grade(1000), true);
        due("3 not known again", x.square(0, 1, 1), 0);
        due("3 not known again", x.square(0, 1, 2), 1000);
        due("3 bored still", x.square(0, 0, 2), 500);
    }

    // ---- 4

    private static void bore() {
        DredgePond x = new DredgePond(4, 3);
        due("4 bore", x.bore(2, 1, 400), true);
        due("4 told", x.square(2, 1, 6), 1);
        due("4 least", x.square(2, 1, 1), 400);
        due("4 greatest", x.square(2, 1, 2), 400);
        due("4 0", x.bore(2, 1, 0), true);
        due("4 latest", x.square(2, 1, 2), 0);
        due("4 1000", x.bore(2, 1, 1000), true);
        due("4 latest", x.square(2, 1, 1), 1000);
        due("4 too much", x.bore(2, 1, 1001), false);
        due("4 too little", x.bore(2, 1, -1), false);
        due("4 far", x.bore(2, 1, HIGH), false);
        due("4 far", x.bore(2, 1, LOW), false);
        due("4 row below", x.bore(-1, 1, 5), false);
        due("4 row above", x.bore(4, 1, 5), false);
        due("4 place below", x.bore(2, -1, 5), false);
        due("4 place above", x.bore(2, 3, 5), false);
        due("4 still", x.square(2, 1, 1), 1000);
        due("4 others not", x.square(1, 2, 6) + x.square(3, 0, 6) + x.square(2, 0, 6), 0);
    }

    private static void boreOfDug() {
        DredgePond x = new DredgePond(4, 3);
        x.dig(1, 10);
        due("4 dug", x.bore(0, 1, 5), false);
        due("4 dug still", x.square(0, 1, 1), 10);
        due("4 passed but not dug", x.bore(0, 2, 5), true);
        due("4 passed told", x.square(0, 2, 1), 5);
    }

    // ---- 5

    private static void spanByTheNearestTold() {
        DredgePond x = new DredgePond(5, 5);
        x.grade(50);
        x.bore(2, 2, 400);
        int[][] squares = {{2, 1, 1}, {2, 3, 1}, {1, 2, 1}, {3, 2, 1}, {1, 1, 2}, {1, 3, 2}, {3, 1, 2}, {3, 3, 2},
            {0, 0, 4}, {0, 4, 4}, {4, 0, 4}, {4, 4, 4}, {0, 2, 2}, {4, 3, 3}};
        for (int[] at : squares) {
            due("5 least " + at[0] + "," + at[1], x.square(at[0], at[1], 1), 400 - 50 * at[2]);
            due("5 greatest " + at[0] + "," + at[1], x.square(at[0], at[1], 2), 400 + 50 * at[2]);
        }
        x.bore(2, 4, 480);
        due("5 of both the greatest least", x.square(2, 3, 1), 430);
        due("5 of both the least greatest", x.square(2, 3, 2), 450);
        due("5 latest", x.bore(2, 4, 300), true);
        due("5 an earlier bore is gone", x.square(2, 3, 1), 350);
        due("5 an earlier bore is gone", x.square(2, 3, 2), 350);
        due("5 an earlier bore is gone", x.square(2, 3, 3), 0);
    }

    private static void spanHeldToItsEnds() {
        DredgePond x = new DredgePond(4, 3);
        x.grade(100);
        x.bore(0, 0, 50);
        due("5 0 at least", x.square(0, 1, 1), 0);
        due("5 0 at least", x.square(0, 1, 2), 150);
        x.bore(3, 2, 980);
        due("5 1,000 at most", x.square(3, 1, 2), 450);
        due("5 1,000 at most", x.square(3, 1, 1), 880);
        x.bore(0, 0, 1000);
        due("5 1,000 at most", x.square(2, 2, 2), 1000);
        due("5 what", x.square(0, 0, 7), NONE);
        due("5 what", x.square(0, 0, -1), NONE);
        due("5 what", x.square(0, 0, HIGH), NONE);
        due("5 what", x.square(0, 0, LOW), NONE);
        due("5 row", x.square(-1, 0, 0), NONE);
        due("5 place", x.square(0, -1, 0), NONE);
        due("5 place by the next row", x.square(0, 3, 6), NONE);
        due("5 far", x.square(HIGH, HIGH, 1), NONE);
        due("5 far", x.square(LOW, LOW, 1), NONE);
    }

    private static void quarrel() {
        DredgePond x = new DredgePond(3, 2);
        x.grade(10);
        x.bore(0, 0, 100);
        x.bore(2, 0, 121);
        due("5 least", x.square(1, 0, 1), 111);
        due("5 greatest", x.square(1, 0, 2), 110);
        due("5 quarrel", x.square(1, 0, 3), 1);
        due("5 the next too", x.square(1, 1, 1), 101);
        due("5 the next too", x.square(1, 1, 2), 120);
        due("5 no quarrel", x.square(1, 1, 3), 0);
        due("5 told ones don't", x.square(0, 0, 3) + x.square(2, 0, 3), 0);
        due("20 quarrels", x.count(10), 1);
        x.bore(2, 0, 120);
        due("5 both alike is none", x.square(1, 0, 3), 0);
        due("5 both alike", x.square(1, 0, 2), 110);
        due("20 no quarrels", x.count(10), 0);
        x.bore(2, 0, 800);
        due("20 all not told", x.count(10), 4);
        x.bore(1, 0, 500);
        due("5 told ones have their own", x.square(1, 0, 1), 500);
        due("5 told ones don't quarrel", x.square(1, 0, 3), 0);
        due("20 the rest", x.count(10), 3);
    }

    private static void squareOfDug() {
        DredgePond x = new DredgePond(5, 3);
        x.grade(50);
        x.bore(0, 1, 300);
        x.dig(1, 620);
        due("5 dug", x.square(0, 1, 4), 1);
        due("5 not dug beside", x.square(0, 0, 4), 0);
        due("5 not dug behind", x.square(1, 1, 4), 0);
        due("5 found", x.square(0, 1, 6), 1);
        due("5 found least", x.square(0, 1, 1), 620);
        due("5 found narrows", x.square(1, 1, 1), 570);
        due("5 found narrows", x.square(1, 1, 2), 670);
        due("5 not laid back", x.square(0, 1, 5), 0);
        Check.wait(x, 1);
        x.dig(0, 600);
        x.dig(0, 600);
        x.dig(0, 600);
        x.back(0, 1);
        due("5 laid back", x.square(0, 1, 5), 1);
        due("5 beside not laid back", x.square(0, 0, 5), 0);
        due("5 still dug", x.square(0, 1, 4), 1);
    }

    // ---- 6

    private static void cost() {
        DredgePond x = new DredgePond(2, 2);
        due("6 at first 100", x.path(1, NONE), 2 * 3 * 900);
        due("6 0", x.cost(0), true);
        due("6 0 told", x.path(0, NONE), 0);
        due("6 1000", x.cost(1000), true);
        due("6 1000 told", x.path(0, NONE), -6000);
        due("6 above", x.cost(1001), false);
        due("6 below", x.cost(-1), false);
        due("6 far", x.cost(LOW), false);
        due("6 far", x.cost(HIGH), false);
        due("6 still", x.path(0, NONE), -6000);
    }

    // ---- 7

    private static void pathByWays() {
        DredgePond x = new DredgePond(3, 2);
        x.grade(75);
        x.cost(0);
        x.bore(0, 0, 102);
        x.bore(2, 1, 200);
        // SPANS: (0,1) 50 to 177, (1,0) 50 to 177, (1,1) 125 to 252, (2,0) 125 to 252
        due("7 least", x.path(0, NONE), 3 * (102 + 125 + 200));
        due("7 least 0", x.path(0, 0), 0);
        due("7 least 1", x.path(0, 1), 1);
        due("7 least 2", x.path(0, 2), 1);
        due("7 greatest", x.path(1, NONE), 3 * (177 + 252 + 252));
        due("7 greatest 0", x.path(1, 0), 1);
        due("7 greatest 1", x.path(1, 1), 1);
        due("7 greatest 2", x.path(1, 2), 0);
        // middles, cut: (0,1) 113, (1,0) 113, (1,1) 188, (2,0) 188
        due("7 middle", x.path(2, NONE), 3 * (113 + 188 + 200));
        due("7 middle 0", x.path(2, 0), 1);
        due("7 middle 1", x.path(2, 1), 1);
        due("7 middle 2", x.path(2, 2), 1);
        due("7 k above", x.path(2, 3), NO_PATH);
        due("7 k below", x.path(2, -2), NO_PATH);
        due("7 far", x.path(2, LOW), NO_PATH);
        due("7 far", x.path(2, HIGH), NO_PATH);
        due("7 way above", x.path(3, 0), NO_PATH);
        due("7 way below", x.path(-1, 0), NO_PATH);
        due("7 way far", x.path(HIGH, NONE), NO_PATH);
        x.cost(150);
        x.depth(1, 1, 9);
        // a WORTH below 0 is more so by its DEPTH: (1,1) -225, (1,0) -300
        due("7 depth", x.path(0, NONE), 3 * (102 - 150) + 9 * (125 - 150) + 3 * 50);
        x.depth(1, 0, 1);
        due("7 shallow", x.path(0, NONE), 3 * (102 - 150) + (50 - 150) + 3 * 50);
        due("7 shallow 1", x.path(0, 1), 0);
    }

    private static void pathOfSeveralTheLeastPlace() {
        DredgePond x = new DredgePond(4, 5);
        for (int k = 0; k < 4; k++) {
            due("7 all alike " + k, x.path(0, k), 0);
        }
        x.bore(3, 4, 500);
        int[] to4 = {1, 2, 3, 4};
        for (int k = 0; k < 4; k++) {
            due("7 the least first " + k, x.path(0, k), to4[k]);
        }
        x.bore(0, 4, 500);
        int[] from4 = {4, 3, 3, 4};
        for (int k = 0; k < 4; k++) {
            due("7 the least then " + k, x.path(0, k), from4[k]);
        }
        due("7 sum", x.path(0, NONE), 3 * (400 - 100 - 100 + 400));
    }

    private static void pathFromTheDredge() {
        DredgePond x = new DredgePond(3, 5);
        x.bore(1, 4, 1000);
        x.bore(1, 0, 300);
        x.dig(1, 900);
        due("7 the dug one isn't in it", x.path(0, NONE), 3 * (200 - 100));
        due("7 at most 1 beside", x.path(0, 0), 0);
        due("7 two are left", x.path(0, 1), 0);
        due("7 two are left", x.path(0, 2), NO_PATH);
        x.dig(2, 0);
        due("7 one is left", x.path(0, NONE), -300);
        due("7 one is left", x.path(0, 0), 1);
        due("7 one is left", x.path(0, 1), NO_PATH);
        x.dig(2, 0);
        due("7 none is left", x.path(0, NONE), NO_PATH);
        due("7 none is left", x.path(1, 0), NO_PATH);
    }

    // ---- 8

    private static void next() {
        DredgePond x = new DredgePond(3, 3);
        due("8 all alike", x.next(), 0);
        x.bore(0, 0, 100);
        due("8 not a told one", x.next(), 1);
        x.grade(100);
        due("8 widest", x.next(), 8 * 2 + 2);
        x.bore(2, 2, 100);
        // (0,2), (1,1) and (2,0) are 2 from both: 0 to 300
        due("8 the least ROW", x.next(), 2);
        x.dig(0, 100);
        due("8 ROWS not dug", x.next(), 8 + 1);
        x.bore(1, 1, 100);
        due("8 widest again", x.next(), 16);
        x.bore(2, 0, 100);
        due("8 the least PLACE", x.next(), 8);
        x.dig(0, 100);
        due("8 the last one", x.next(), 17);
        x.bore(2, 1, 100);
        due("8 all told", x.next(), NONE);
        DredgePond y = new DredgePond(2, 2);
        y.dig(0, 1);
        y.dig(0, 1);
        due("8 no ROW left", y.next(), NONE);
        DredgePond z = new DredgePond(3, 2);
        z.grade(100);
        z.bore(0, 0, 950);
        z.bore(1, 0, 850);
        // (0,1) 850 to 950, (1,1) 750 to 950, (2,0) the same, (2,1) 650 to 1,000
        due("8 widest, not highest", z.next(), 17);
    }

    private static void nextInQuarrel() {
        DredgePond x = new DredgePond(2, 2);
        x.grade(10);
        x.bore(0, 0, 0);
        x.bore(1, 1, 500);
        due("8 all in quarrel", x.count(10), 2);
        due("8 one in quarrel is one", x.next(), 1);
        x.bore(0, 1, 0);
        due("8 the last in quarrel", x.next(), 8);
    }

    // ---- 9

    private static void barsNotAsTold() {
        DredgePond x = new DredgePond(3, 5);
        due("9 any place", x.bars(0), 0);
        due("9 any place", x.bars(4), 0);
        due("9 no such place", x.bars(5), 1);
        due("9 no such place", x.bars(-1), 1);
        due("9 far", x.bars(LOW), 1);
        due("9 far", x.bars(HIGH), 1);
        x.dig(2, 5);
        due("9 beside", x.bars(1), 0);
        due("9 same", x.bars(2), 0);
        due("9 beside", x.bars(3), 0);
        due("9 2 beside", x.bars(0), 1);
        due("9 2 beside", x.bars(4), 1);
        due("9 far", x.bars(LOW), 1);
        due("9 far", x.bars(HIGH), 1);
        x.dig(2, 5);
        x.dig(2, 5);
        due("9 no row left", x.bars(2), 1);
    }

    private static void barsByLevel() {
        DredgePond x = new DredgePond(3, 3);
        x.let(50);
        due("9 level 50", x.bars(0), 0);
        x.let(1);
        due("9 level 49", x.bars(0), 2);
        x.day(154);
        due("9 level 200", x.count(4), 200);
        due("9 level 200", x.bars(0), 0);
        x.day(4);
        due("9 level 201", x.bars(0), 2);
        Check.law(x, "level 201 to 201;");
        due("9 by the law", x.bars(0), 0);
        Check.law(x, "level 202 to 201;");
        due("9 least above greatest", x.bars(0), 2);
        Check.law(x, "level 1 to 200;");
        due("9 above the law", x.bars(0), 2);
        Check.law(x, "level 202 to 9999;");
        due("9 below the law", x.bars(0), 2);
    }

    private static void barsByBank() {
        DredgePond x = new DredgePond(3, 3);
        x.depth(0, 0, 4);
        x.depth(1, 0, 6);
        x.depth(1, 1, 2);
        x.depth(2, 0, 9);
        x.depth(2, 1, 9);
        Check.law(x, "bank 0;");
        due("9 no bank ahead of the first", x.bars(0), 0);
        Check.law(x, "bank 1;");
        x.dig(0, 5);
        due("9 deeper by 2", x.bars(0), 3);
        due("9 shallower by 2", x.bars(1), 3);
        Check.law(x, "bank 2;");
        due("9 deeper by 2", x.bars(0), 0);
        due("9 shallower by 2", x.bars(1), 0);
        Check.law(x, "bank 0;");
        due("9 no bank", x.bars(0), 3);
        x.depth(1, 0, 4);
        due("9 level ground", x.bars(0), 0);
        Check.law(x, "fine 1;");
        x.depth(1, 0, 1);
        due("9 any bank by the usual 9", x.bars(0), 0);
    }

    private static void barsByHours() {
        DredgePond x = new DredgePond(4, 3);
        x.depth(0, 0, 6);
        x.depth(1, 0, 4);
        x.depth(1, 1, 5);
        x.dig(0, 5);
        due("9 hours", x.count(3), 8);
        due("9 8 hours are enough", x.bars(0), 0);
        due("9 10 hours are not there", x.bars(1), 4);
        x.dig(0, 5);
        due("9 no hours", x.count(3), 0);
        x.depth(2, 0, 1);
        due("9 no hours", x.bars(0), 4);
        x.day(3);
        due("9 the next day", x.bars(0), 0);
    }

    private static void barsByMud() {
        DredgePond x = new DredgePond(4, 3);
        x.dig(0, 5);
        Check.law(x, "clear 9;");
        due("9 mud 9", x.bars(0), 0);
        Check.law(x, "clear 8;");
        due("9 mud above", x.bars(0), 5);
        x.day(3);
        due("9 mud gone", x.bars(0), 0);
        DredgePond y = new DredgePond(8, 2);
        for (int row = 0; row < 8; row++) {
            y.depth(row, 0, 9);
        }
        for (int row = 0; row < 6; row++) {
            y.dig(0, 5);
            y.day(3);
        }
        // 27 a DAY less 10: 17 each
        due("9 mud", y.count(5), 102);
        due("9 mud above the usual 100", y.bars(0), 5);
    }

    private static void barsTheFirst() {
        DredgePond x = new DredgePond(3, 3);
        x.depth(0, 0, 8);
        x.depth(1, 0, 3);
        x.dig(0, 5);
        Check.law(x, "clear 0; bank 4; level 0 to 99;");
        due("9 first 1", x.bars(2), 1);
        due("9 first 2", x.bars(0), 2);
        Check.law(x, "clear 0; bank 4;");
        due("9 first 3", x.bars(0), 3);
        Check.law(x, "clear 0;");
        due("9 first 4", x.bars(0), 4);
        x.depth(1, 0, 2);
        due("9 first 5", x.bars(0), 5);
        Check.law(x, "");
        due("9 nothing", x.bars(0), 0);
    }

    // ---- 10

    private static void dig() {
        DredgePond x = new DredgePond(3, 3);
        x.depth(0, 1, 5);
        // 5 times 399: 1,995; 4 hundredths: 79.8
        due("10 bagged", x.dig(1, 399), 1995 - 79);
        due("10 lost", x.count(7), 79);
        due("10 bagged in all", x.count(6), 1916);
        due("10 hours", x.count(3), 10);
        due("10 mud", x.count(5), 15);
        due("10 row", x.count(1), 0);
        due("10 place", x.count(2), 1);
        due("10 found", x.square(0, 1, 1), 399);
        due("10 level stays", x.count(4), 100);
        due("10 nothing found", x.dig(2, 0), 0);
        due("10 hours", x.count(3), 4);
        due("10 mud", x.count(5), 24);
        due("10 row", x.count(1), 1);
        due("10 place", x.count(2), 2);
        due("10 found 0", x.square(1, 2, 6), 1);
        x.depth(2, 2, 2);
        due("10 the most", x.dig(2, 1000), 1920);
        due("10 bagged in all", x.count(6), 3836);
        due("10 lost in all", x.count(7), 159);
    }

    private static void digNotAsTold() {
        DredgePond x = new DredgePond(2, 3);
        due("10 tin above", x.dig(1, 1001), NONE);
        due("10 tin below", x.dig(1, -1), NONE);
        due("10 tin far", x.dig(1, LOW), NONE);
        due("10 no place", x.dig(3, 5), NONE);
        due("10 no place", x.dig(-1, 5), NONE);
        due("10 far", x.dig(HIGH, HIGH), NONE);
        due("10 nothing done", x.count(1), NONE);
        due("10 nothing done", x.count(3), 20);
        due("10 nothing found", x.square(0, 1, 6), 0);
        x.let(60);
        due("10 barred by the level", x.dig(1, 5), NONE);
        due("10 nothing done", x.square(0, 1, 4), 0);
        x.day(63);
        x.dig(1, 5);
        due("10 2 beside is fine", x.dig(2, 5) != NONE, true);
        due("10 no row left", x.dig(2, 5), NONE);
        due("10 bagged once each", x.count(6), 30);
        due("10 hours", x.count(3), 8);
    }

    // ---- 11

    private static void jig() {
        int[] hundredths = {0, 0, 2, 4, 8, 12, 18, 24, 32, 40};
        for (int speed = 0; speed <= 9; speed++) {
            DredgePond x = new DredgePond(2, 2);
            due("11 jig " + speed, x.jig(speed), true);
            due("11 bagged at " + speed, x.dig(0, 1000), 3000 - 30 * hundredths[speed]);
            due("11 lost at " + speed, x.count(7), 30 * hundredths[speed]);
        }
        DredgePond x = new DredgePond(2, 2);
        due("11 above", x.jig(10), false);
        due("11 below", x.jig(-1), false);
        due("11 far", x.jig(LOW), false);
        due("11 far", x.jig(HIGH), false);
        due("11 3 at first", x.dig(0, 1000), 2880);
        x.jig(9);
        x.jig(10);
        due("11 still 9", x.dig(0, 1000), 1800);
    }

    // ---- 12

    private static void let() {
        DredgePond x = new DredgePond(2, 2);
        due("12 let", x.let(1), 99);
        due("12 0", x.let(0), NONE);
        due("12 below", x.let(-1), NONE);
        due("12 far", x.let(LOW), NONE);
        due("12 far", x.let(HIGH), NONE);
        due("12 more than there is", x.let(100), NONE);
        due("12 still", x.count(4), 99);
        due("12 all", x.let(99), 0);
        due("12 none left", x.let(1), NONE);
        due("12 no fine", x.count(8), 0);
    }

    private static void letFined() {
        DredgePond x = new DredgePond(2, 2);
        x.dig(0, 1);
        Check.law(x, "clear 9;");
        x.let(1);
        due("12 mud at CLEAR", x.count(8), 0);
        Check.law(x, "clear 8;");
        x.let(0);
        x.let(500);
        due("12 nothing let, no fine", x.count(8), 0);
        due("12 let", x.let(5), 94);
        due("12 the usual fine", x.count(8), 10);
        Check.law(x, "clear 0; fine 9999;");
        x.let(94);
        due("12 by the law", x.count(8), 10009);
        due("12 mud stays", x.count(5), 9);
    }

    // ---- 13

    private static void day() {
        DredgePond x = new DredgePond(3, 2);
        x.depth(0, 0, 5);
        x.dig(0, 1);
        due("13 day", x.day(10), 1);
        due("13 today", x.count(0), 1);
        due("13 level", x.count(4), 107);
        due("13 mud", x.count(5), 5);
        due("13 hours", x.count(3), 20);
        due("13 day", x.day(0), 2);
        due("13 level", x.count(4), 104);
        due("13 mud 0 at least", x.count(5), 0);
        due("13 most water", x.day(200), 3);
        due("13 level", x.count(4), 301);
        due("13 too much water", x.day(201), NONE);
        due("13 below", x.day(-1), NONE);
        due("13 far", x.day(LOW), NONE);
        due("13 far", x.day(HIGH), NONE);
        due("13 nothing done", x.count(0), 3);
        due("13 nothing done", x.count(4), 301);
    }

    private static void dayHoldsTheLevel() {
        DredgePond x = new DredgePond(2, 2);
        x.let(98);
        x.day(0);
        due("13 0 at least", x.count(4), 0);
        x.day(2);
        due("13 0 at least", x.count(4), 0);
        x.day(4);
        due("13 up again", x.count(4), 1);
        for (int i = 0; i < 5; i++) {
            x.day(200);
        }
        due("13 nearly", x.count(4), 986);
        x.day(17);
        due("13 just", x.count(4), 1000);
        x.day(4);
        due("13 1,000 at most", x.count(4), 1000);
        x.day(3);
        due("13 up by 3 and down by 3", x.count(4), 1000);
        x.day(2);
        due("13 down", x.count(4), 999);
    }

    private static void dayFines() {
        DredgePond x = new DredgePond(9, 2);
        Check.law(x, "back 2; fine 7;");
        x.dig(0, 1);
        x.day(3);
        x.dig(0, 1);
        x.dig(0, 1);
        x.day(3);
        x.dig(0, 1);
        x.day(3);
        due("13 DAY 2 goes by: not more than 2 DAYS ago", x.count(8), 0);
        x.day(3);
        due("13 DAY 3 goes by", x.count(8), 7);
        x.day(3);
        due("13 two of DAY 1", x.count(8), 21);
        x.day(3);
        due("13 one of DAY 2", x.count(8), 28);
        Check.wait(x, 5);
        due("13 once a SQUARE", x.count(8), 28);
    }

    private static void dayFinesByTheLawOfTheDay() {
        DredgePond x = new DredgePond(9, 2);
        x.dig(0, 1);
        x.dig(0, 1);
        x.day(3);
        x.dig(0, 1);
        x.dig(0, 1);
        due("13 laid back", x.back(0, 0), true);
        Check.wait(x, 30);
        due("13 the usual 30 DAYS", x.count(8), 0);
        x.day(3);
        due("13 the usual fine", x.count(8), 20 - 10);
        due("13 TODAY", x.count(0), 32);
        Check.law(x, "back 9999; fine 100;");
        Check.wait(x, 2);
        due("13 a long time", x.count(8), 10);
        Check.law(x, "fine 1;");
        x.day(3);
        due("13 two by the new law", x.count(8), 12);
    }

    private static void lastDay() {
        DredgePond x = new DredgePond(2, 2);
        // more calls than an object is promised for: TODAY stays within 600 all the same
        Check.wait(x, 599);
        due("13 the last", x.day(3), 600);
        due("13 no more", x.day(3), NONE);
        due("13 still", x.count(0), 600);
    }

    // ---- 14

    private static void back() {
        DredgePond x = new DredgePond(6, 3);
        due("14 nothing dug", x.back(0, 1), false);
        x.dig(1, 1);
        x.dig(2, 1);
        x.dig(1, 1);
        due("14 2 behind", x.back(0, 1), false);
        due("14 none laid", x.square(0, 1, 5), 0);
        x.day(3);
        x.dig(0, 1);
        due("14 not dug", x.back(0, 0), false);
        due("14 3 behind", x.back(0, 1), true);
        due("14 again", x.back(0, 1), false);
        due("14 count", x.count(9), 1);
        due("14 too near", x.back(1, 2), false);
        due("14 where the dredge is", x.back(3, 0), false);
        due("14 ahead", x.back(4, 0), false);
        due("14 row below", x.back(-1, 1), false);
        due("14 row above", x.back(6, 1), false);
        due("14 place below", x.back(0, -1), false);
        due("14 place above", x.back(0, 3), false);
        due("14 far", x.back(LOW, LOW), false);
        due("14 far", x.back(HIGH, HIGH), false);
        x.dig(0, 1);
        due("14 the next", x.back(1, 2), true);
        due("14 count", x.count(9), 2);
        due("14 laid", x.square(1, 2, 5), 1);
        due("14 not laid", x.square(2, 1, 5), 0);
    }

    // ---- 15

    private static void feed() {
        DredgePond x = new DredgePond(2, 2);
        for (int i = 1; i <= 15; i++) {
            due("15 feed " + i, x.feed(0, 0, 0, 0, 0), 20 * i);
            due("20 bytes " + i, x.count(12), 20 * i);
        }
        due("15 more than 300", x.feed(0, 0, 0, 0, 0), NONE);
        due("20 bytes", x.count(12), 300);
        DredgePond y = new DredgePond(2, 2);
        y.feed(0x62616e6b, 0x20312032, 0x203b2020, 0x20202020, 0x20202020);
        due("15 the highest first: bank 1 2", y.law(20), NONE);
        due("15 the 2", y.fault(), 7);
        y.feed(0x20202020, 0x20202020, 0x20202020, 0x20202020, 0x20206261);
        y.feed(0x6e6b2034, 0x3b202020, 0x20202020, 0x20202020, 0x202020ff);
        due("15 behind those on the tape", y.law(39), 0);
        due("15 bank 4", y.tells(0, 2), 4);
        y.feed(0x20202020, 0x20202020, 0x20202020, 0x20202020, 0x202020ff);
        due("15 the last byte", y.law(20), NONE);
        due("15 the last byte", y.fault(), 19);
    }

    // ---- 16

    private static void law() {
        DredgePond x = new DredgePond(2, 2);
        due("16 first", Check.law(x, "bank 1;"), 0);
        due("16 the tape is empty", x.count(12), 0);
        due("20 laws", x.count(11), 1);
        due("16 second", Check.law(x, "fine 3;"), 1);
        due("16 what it has not is as usual", x.tells(0, 2), 9);
        due("16 what it has", x.tells(0, 6), 3);
        due("16 a fault", Check.law(x, "fine 4"), NONE);
        due("16 the tape is empty", x.count(12), 0);
        due("16 not taken", x.count(11), 2);
        due("16 not in force", x.tells(0, 6), 3);
        due("16 nothing is a law", x.law(0), 2);
        due("16 as usual", x.tells(0, 6), 10);
        Check.feed(x, "fine 5; fine 6; xxxx");
        due("16 the first bytes", x.law(7), 3);
        due("16 the first bytes", x.tells(0, 6), 5);
        due("16 the tape is empty", x.count(12), 0);
    }

    private static void lawNotAsTold() {
        DredgePond x = new DredgePond(2, 2);
        due("16 more than there are", x.law(1), -2);
        Check.feed(x, "fine 5;");
        due("16 below 0", x.law(-1), -2);
        due("16 far", x.law(LOW), -2);
        due("16 far", x.law(HIGH), -2);
        due("16 more than there are", x.law(21), -2);
        due("16 nothing done", x.count(12), 20);
        due("16 nothing done", x.count(11), 0);
        due("16 all there are", x.law(20), 0);
    }

    private static void lawsFull() {
        DredgePond x = new DredgePond(2, 2);
        for (int number = 0; number < 10; number++) {
            due("16 law " + number, Check.law(x, "fine " + number + ";"), number);
        }
        Check.feed(x, "fine 77;");
        due("16 there are 10", x.law(8), -3);
        due("16 a fault too", x.law(3), -3);
        due("16 not as told too", x.law(21), -2);
        due("16 nothing done", x.count(12), 20);
        due("16 10", x.count(11), 10);
        due("16 the last", x.tells(600, 6), 9);
        due("16 no fault", x.fault(), NONE);
    }

    private static void lawTexts() {
        DredgePond x = new DredgePond(2, 2);
        due("16 all", Check.law(x, "level 1 to 2;bank 3;clear 4;back 5;royalty 6;fine 7;"), 0);
        for (int what = 0; what < 7; what++) {
            due("16 term " + what, x.tells(0, what), what + 1);
        }
        due("16 blanks", Check.law(x, "\n fine\n\n 0012 ;  \n"), 1);
        due("16 four digits", x.tells(0, 6), 12);
        due("16 no blanks", Check.law(x, "level10to9999;fine8;"), 2);
        due("16 no blanks", x.tells(0, 0), 10);
        due("16 no blanks", x.tells(0, 1), 9999);
        due("16 no blanks", x.tells(0, 6), 8);
        due("16 the last of each", Check.law(x, "fine 1;level 5 to 6;fine 2;level 7 to 8;fine 3;"), 3);
        due("16 the last fine", x.tells(0, 6), 3);
        due("16 the last level", x.tells(0, 0), 7);
        due("16 the last level", x.tells(0, 1), 8);
        due("16 blanks alone", Check.law(x, "   \n\n   "), 4);
        due("16 as usual without a statement", x.tells(0, 0), 50);
        due("16 as usual without a statement", x.tells(0, 1), 200);
    }

    // ---- 17

    private static void faults() {
        String[] texts = {"level 5;", "depth 3;", "fine 10000;", "clear 5", "clear 5  ", "fine", "fine ", "fin", " ;",
            "5;", "fine 5; 6", "fine fine;", "fine ;", "fine 5 5;", "fine 5 to;", "level 5 to 6", "level 5 too 6;",
            "level 5 to to", "level 5 t", "level 5 6;", "level 5 to 12345;", "bank 5;;", "Bank 5;", "bank 5,", "bank\t5;",
            "bank 5;\r", "bank \u00ff", "bank 5;back", "levels 5 to 6;", "to 5;", "bank -5;", "bank 5.", "bank 12a;",
            "`", "{", "/", ":", "bank 00001;", "bank 5; \u0000", "level 5 to 6 to 7;", "level",
            "sank 5;", "bask 5;", "ban 5;", "banks 5;", "level 5 so 6;"};
        int[] places = {7, 0, 5, 7, 9, 4, 5, 0, 1,
            0, 8, 5, 5, 7, 7, 12, 8,
            11, 8, 8, 11, 7, 0, 6, 4,
            7, 5, 11, 0, 0, 5, 6, 7,
            0, 0, 0, 0, 5, 8, 13, 5,
            0, 0, 0, 0, 8};
        due("17 as many", texts.length, places.length);
        DredgePond x = new DredgePond(2, 2);
        for (int i = 0; i < texts.length; i++) {
            due("16 fault in " + texts[i], Check.law(x, texts[i]), NONE);
            due("17 fault in " + texts[i], x.fault(), places[i]);
        }
        Check.feed(x, "fine 555;");
        due("16 cut in a number", x.law(6), NONE);
        due("17 the text's length", x.fault(), 6);
        Check.feed(x, "fine 5;");
        due("16 cut in a word", x.law(3), NONE);
        due("17 the word", x.fault(), 0);
        due("20 no laws", x.count(11), 0);
        due("18 no law", x.tells(0, 7), NONE);
    }

    private static void faultOfStatements() {
        String twelve = "fine 1;bank 2;".repeat(6);
        DredgePond x = new DredgePond(2, 2);
        due("16 12 statements", Check.law(x, twelve), 0);
        due("16 12 statements and blanks", Check.law(x, twelve + "  \n"), 1);
        due("16 13 statements", Check.law(x, twelve + " fine 3;"), NONE);
        due("17 where the 13th begins", x.fault(), 85);
        due("16 13 with a fault", Check.law(x, twelve + "fine 30000;"), NONE);
        due("17 where the 13th begins", x.fault(), 84);
        due("16 11 and a fault", Check.law(x, twelve.substring(7) + "fine 30000;"), NONE);
        due("17 in the 12th", x.fault(), 82);
    }

    private static void faultStays() {
        DredgePond x = new DredgePond(2, 2);
        due("17 at first", x.fault(), NONE);
        Check.law(x, "x");
        due("17 0", x.fault(), 0);
        x.law(5);
        due("17 -2 leaves it", x.fault(), 0);
        Check.law(x, "fine 2;");
        due("17 it had none", x.fault(), NONE);
        Check.law(x, "fine 2");
        due("17 6", x.fault(), 6);
        for (int i = 1; i < 10; i++) {
            x.law(0);
        }
        due("17 none", x.fault(), NONE);
        due("17 10 laws", x.law(0), -3);
        due("17 -3 leaves it", x.fault(), NONE);
    }

    // ---- 18

    private static void tells() {
        DredgePond x = new DredgePond(2, 2);
        int[] usual = {50, 200, 9, 100, 30, 50, 10, NONE};
        for (int what = 0; what < usual.length; what++) {
            due("18 usual " + what, x.tells(0, what), usual[what]);
            due("18 usual " + what, x.tells(600, what), usual[what]);
        }
        Check.wait(x, 5);
        Check.law(x, "clear 1;");
        Check.wait(x, 5);
        Check.law(x, "clear 2;");
        Check.law(x, "clear 3;");
        due("18 ahead of the first", x.tells(4, 3), 100);
        due("18 ahead of the first", x.tells(4, 7), NONE);
        due("18 from its day on", x.tells(5, 3), 1);
        due("18 from its day on", x.tells(5, 7), 0);
        due("18 up to the next", x.tells(9, 7), 0);
        due("18 the latest of the day", x.tells(10, 7), 2);
        due("18 the latest of the day", x.tells(10, 3), 3);
        due("18 to the end", x.tells(600, 3), 3);
        due("18 day above", x.tells(601, 3), NONE);
        due("18 day below", x.tells(-1, 3), NONE);
        due("18 day far", x.tells(LOW, 7), NONE);
        due("18 day far", x.tells(HIGH, 7), NONE);
        due("18 what above", x.tells(10, 8), NONE);
        due("18 what below", x.tells(10, -1), NONE);
        due("18 what far", x.tells(10, LOW), NONE);
        due("18 what far", x.tells(10, HIGH), NONE);
        due("18 what above, no law", x.tells(0, 8), NONE);
    }

    // ---- 19

    private static void month() {
        DredgePond x = new DredgePond(5, 2);
        x.jig(0);
        x.dig(0, 333);
        Check.wait(x, 29);
        x.dig(0, 1);
        x.day(3);
        x.dig(0, 200);
        due("19 DAYS 0 to 29", x.month(0, 0), 1002);
        due("19 DAY 30", x.month(1, 0), 600);
        due("19 cut", x.month(0, 1), 50);
        due("19 royalty", x.month(1, 1), 30);
        due("19 nothing", x.month(20, 0), 0);
        due("19 nothing", x.month(20, 1), 0);
        due("19 above", x.month(21, 0), NONE);
        due("19 below", x.month(-1, 0), NONE);
        due("19 far", x.month(LOW, 0), NONE);
        due("19 far", x.month(HIGH, 1), NONE);
        due("19 what", x.month(0, 2), NONE);
        due("19 what", x.month(0, -1), NONE);
        due("19 what", x.month(0, LOW), NONE);
        due("20 in all", x.count(6), 1602);
    }

    private static void royaltyOfTheLastDay() {
        DredgePond x = new DredgePond(20, 2);
        x.jig(1);
        x.dig(0, 1000);
        Check.law(x, "royalty 100;");
        due("19 by the law as it stands", x.month(0, 1), 300);
        Check.wait(x, 29);
        Check.law(x, "royalty 9999;");
        due("19 by the last DAY's", x.month(0, 1), 29997);
        x.day(3);
        Check.law(x, "royalty 1;");
        due("19 the next month's law doesn't count", x.month(0, 1), 29997);
        x.dig(0, 999);
        due("19 cut", x.month(1, 1), 2);
        Check.law(x, "royalty 0;");
        due("19 none", x.month(1, 1), 0);
    }

    // ---- 20

    private static void count() {
        DredgePond x = new DredgePond(5, 3);
        x.grade(1);
        x.bore(4, 0, 0);
        x.bore(4, 2, 1000);
        x.jig(2);
        x.dig(2, 100);
        x.dig(1, 100);
        x.dig(0, 100);
        x.day(6);
        x.dig(1, 100);
        x.back(0, 2);
        Check.law(x, "clear 0; fine 33;");
        x.let(10);
        x.feed(1, 2, 3, 4, 5);
        // not told: 15 less 2 bored and 4 dug; each of them is in quarrel
        int[] due = {1, 3, 1, 14, 93, 26, 1176, 24, 33, 1, 9, 1, 20};
        for (int what = 0; what < due.length; what++) {
            due("20 count " + what, x.count(what), due[what]);
        }
        due("20 above", x.count(13), NONE);
        due("20 below", x.count(-1), NONE);
        due("20 far", x.count(LOW), NONE);
        due("20 far", x.count(HIGH), NONE);
    }
}
