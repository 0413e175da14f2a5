/** An object at some point of a run: made anew, by the same calls, as often as a test asks. */
final class Scene {
    interface Steps {
        void on(DredgePond x);
    }

    /** Nothing is told, bored or dug. */
    static final Scene FRESH = new Scene(4, 3, x -> { });

    /** DAY 5, the DREDGE in ROW 5 at PLACE 1: each thing that a call can change is other than at first. */
    static final Scene BUSY = new Scene(9, 4, Scene::busy);

    /** No ROW is left. */
    static final Scene DONE = new Scene(5, 3, x -> {
        for (int row = 0; row < 5; row++) {
            x.depth(row, 1, 1);
            x.dig(1, 100 * row);
        }
        x.back(0, 1);
    });

    /** The pond has no water. */
    static final Scene DRY = new Scene(4, 3, x -> x.let(100));

    /** Ten LAWS, and a text on the tape that would be the eleventh. */
    static final Scene TEN_LAWS = new Scene(4, 3, x -> {
        for (int i = 0; i < 10; i++) {
            Check.law(x, "fine " + (20 + i) + "; clear " + i + ";");
        }
        Check.feed(x, "fine 77; level 1 to 3;");
    });

    /** What the ground has: what was told, held to what may be. */
    final int rows;
    final int places;
    private final int toldRows;
    private final int toldPlaces;
    private final Steps steps;

    Scene(int toldRows, int toldPlaces, Steps steps) {
        this.toldRows = toldRows;
        this.toldPlaces = toldPlaces;
        this.steps = steps;
        rows = Math.min(20, Math.max(2, toldRows));
        places = Math.min(8, Math.max(2, toldPlaces));
    }

    DredgePond make() {
        DredgePond x = new DredgePond(toldRows, toldPlaces);
        steps.on(x);
        return x;
    }

    Scene then(Steps more) {
        return new Scene(rows, places, x -> {
            steps.on(x);
            more.on(x);
        });
    }

    private static void busy(DredgePond x) {
        x.grade(60);
        x.cost(150);
        x.jig(5);
        x.depth(0, 1, 5);
        x.depth(1, 1, 2);
        x.depth(5, 1, 4);
        x.depth(6, 2, 1);
        x.depth(8, 3, 9);
        x.bore(0, 1, 300);
        x.bore(4, 1, 410);
        x.bore(6, 0, 520);
        x.bore(7, 3, 180);
        Check.law(x, "clear 20; back 2; fine 7; royalty 300; bank 6;");
        x.dig(1, 310);
        x.dig(1, 350);
        x.let(4);
        x.day(6);
        x.dig(2, 333);
        x.day(2);
        x.dig(2, 280);
        x.day(3);
        x.dig(1, 400);
        x.back(0, 1);
        x.day(1);
        x.day(9);
        Check.law(x, "clear 25; back 3; fine 9; royalty 450; bank 5; level 40 to 180;");
        Check.law(x, "bank 5; fine;");
        x.dig(1, 444);
        Check.feed(x, "royalty 77; clear 11;  fine 8; back 1;");
    }
}
