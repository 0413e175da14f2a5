import java.io.IOException;
import java.util.List;

/** Holds the class to the document, sentence by sentence: what isn't as due is told with its promise and its words. */
final class Edge {
    static final int LOW = Integer.MIN_VALUE;
    static final int HIGH = Integer.MAX_VALUE;
    private static final int PROMISES = 20;

    interface Ask {
        int on(DredgePond x);
    }

    interface Numbered {
        int on(DredgePond x, int number);
    }

    private final Check check = new Check();
    private final Document document = new Document();
    private final boolean[] held = new boolean[PROMISES + 1];
    private String about = "";

    Edge() throws IOException {
    }

    /** From here on the answers are those that these words of the document ask for. */
    void sentence(int promise, String words) {
        about = "promise " + promise + ", \"" + words + "\": ";
        held[promise] = true;
        check.due(about + "stands in the document", document.quote(promise, words), true);
    }

    void due(String call, int got, int want) {
        check.due(about + call, got, want);
    }

    void due(String call, boolean got, boolean want) {
        check.due(about + call, got, want);
    }

    static int one(boolean answer) {
        return answer ? 1 : 0;
    }

    /** The call is answered so, and nothing that a later call shows is other than without it. */
    void unchanged(String call, Scene scene, Ask ask, int want) {
        for (int part = 0; part < Sight.PARTS; part++) {
            DredgePond x = scene.make();
            due(call, ask.on(x), want);
            same(call + " changed nothing", Sight.of(x, scene, part), Sight.of(scene.make(), scene, part));
        }
    }

    /** Two scenes show the same. */
    void alike(String told, Scene one, Scene other) {
        for (int part = 0; part < Sight.PARTS; part++) {
            same(told, Sight.of(one.make(), one, part), Sight.of(other.make(), other, part));
        }
    }

    private void same(String told, List<Integer> got, List<Integer> want) {
        due(told + ", seen " + got + " for " + want, got.equals(want), true);
    }

    /** Numbers from the least to the greatest are taken; the first on either side, and those far off, are refused. */
    void range(String call, Scene scene, Numbered ask, int least, int greatest, int refused) {
        for (int number : new int[] {least, least + 1, greatest - 1, greatest}) {
            due(call + " takes " + number, ask.on(scene.make(), number) != refused, true);
        }
        for (int number : new int[] {least - 1, greatest + 1, LOW, HIGH}) {
            unchanged(call + " of " + number, scene, x -> ask.on(x, number), refused);
        }
    }

    /** ROWS and PLACES that a ground hasn't, with some that would wrap around to ones that it has. */
    static int[][] noSquares(Scene scene) {
        int rows = scene.rows;
        int places = scene.places;
        return new int[][] {{-1, 0}, {rows, 0}, {0, -1}, {0, places}, {1, -1}, {-1, places}, {rows, -1},
            {rows - 1, places}, {1 << 30, 0}, {1 << 31, 0}, {0, 1 << 31}, {0, 1 << 30}, {HIGH, HIGH}, {LOW, HIGH}};
    }

    void close() {
        for (int promise = 1; promise <= PROMISES; promise++) {
            check.due("a sentence of promise " + promise, held[promise], true);
        }
        String left = document.unquoted();
        check.due("words of the document without a test: " + left, left.matches(".*[a-zA-Z0-9].*"), false);
        check.close();
    }
}
