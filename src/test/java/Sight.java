import java.util.ArrayList;
import java.util.List;

/** All that later calls show of an object, in parts: each is for an object of its own, to keep within 512 calls. */
final class Sight {
    private static final int LATER_DAYS = 35;
    /** Parts 0 to 6 are what square() tells, then come the others. */
    static final int PARTS = 12;

    private final int rows;
    private final int places;
    private final List<Integer> seen = new ArrayList<>();

    private Sight(Scene scene) {
        rows = scene.rows;
        places = scene.places;
    }

    static List<Integer> of(DredgePond x, Scene scene, int part) {
        Sight sight = new Sight(scene);
        sight.look(x, part);
        return sight.seen;
    }

    private void look(DredgePond x, int part) {
        switch (part) {
            case 7:
                answers(x);
                break;
            case 8:
                terms(x);
                break;
            case 9:
                tape(x);
                break;
            case 10:
                restOfTheRun(x);
                break;
            case 11:
                spansByOneMoreBore(x);
                break;
            default:
                squares(x, part);
                break;
        }
    }

    private void squares(DredgePond x, int what) {
        for (int row = 0; row < rows; row++) {
            for (int place = 0; place < places; place++) {
                seen.add(x.square(row, place, what));
            }
        }
    }

    private void counts(DredgePond x) {
        for (int what = 0; what <= 12; what++) {
            seen.add(x.count(what));
        }
    }

    private void answers(DredgePond x) {
        counts(x);
        paths(x);
        seen.add(x.next());
        seen.add(x.fault());
        for (int place = -1; place <= places; place++) {
            seen.add(x.bars(place));
        }
        for (int month = 0; month <= 20; month++) {
            seen.add(x.month(month, 0));
            seen.add(x.month(month, 1));
        }
    }

    private void paths(DredgePond x) {
        for (int way = 0; way <= 2; way++) {
            for (int k = -1; k < rows; k++) {
                seen.add(x.path(way, k));
            }
        }
    }

    private void terms(DredgePond x) {
        for (int day = 0; day <= 40; day++) {
            termsOf(x, day);
        }
        termsOf(x, 600);
    }

    private void termsOf(DredgePond x, int day) {
        for (int what = 0; what <= 7; what++) {
            seen.add(x.tells(day, what));
        }
    }

    /** What stands on the tape shows only as it is read. */
    private void tape(DredgePond x) {
        seen.add(x.feed(0x66696e65, 0x2034343b, 0x20202020, 0x20202020, 0x20202020));
        seen.add(x.law(x.count(12)));
        seen.add(x.fault());
        termsOf(x, 600);
        seen.add(Check.law(x, "royalty 3;"));
        counts(x);
    }

    /** The jig's speed, the DAYS of digging, and what has been fined show only as the run goes on. */
    private void restOfTheRun(DredgePond x) {
        int from = Math.max(0, x.count(2));
        for (int i = 0; i < LATER_DAYS; i++) {
            seen.add(x.dig(from, 700));
            seen.add(x.let(1));
            seen.add(x.back(i % rows, from) ? 1 : 0);
            seen.add(x.day(5));
            for (int what = 4; what <= 8; what++) {
                seen.add(x.count(what));
            }
        }
        counts(x);
    }

    /** GRADE and COST show only where something is told. */
    private void spansByOneMoreBore(DredgePond x) {
        seen.add(x.bore(rows - 1, 0, 500) ? 1 : 0);
        squares(x, 1);
        squares(x, 2);
        paths(x);
    }
}
