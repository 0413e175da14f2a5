import java.nio.charset.StandardCharsets;

/** Counts answers and prints those that are not as due. */
final class Check {
    private static final int MOST_PRINTED = 40;

    private int asked = 0;
    private int wrong = 0;

    void due(String call, int got, int want) {
        asked++;
        if (got == want) {
            return;
        }
        wrong++;
        if (wrong <= MOST_PRINTED) {
            System.out.println(call + " answered " + got + ", due is " + want);
        }
    }

    void due(String call, boolean got, boolean want) {
        due(call, got ? 1 : 0, want ? 1 : 0);
    }

    void close() {
        System.out.println((asked - wrong) + " answers are as due, " + wrong + " are not");
        if (wrong != 0 || asked == 0) {
            System.exit(1);
        }
    }

    /** Feeds a text (characters 0 to 255), filled up with blanks to whole twenties; answers the last feed(). */
    static int feed(DredgePond x, String text) {
        byte[] given = text.getBytes(StandardCharsets.ISO_8859_1);
        int size = DredgePond.NONE;
        for (int from = 0; from < given.length; from += 20) {
            int[] words = new int[5];
            for (int i = 0; i < 20; i++) {
                int letter = from + i < given.length ? given[from + i] & 255 : ' ';
                words[i / 4] = words[i / 4] << 8 | letter;
            }
            size = x.feed(words[0], words[1], words[2], words[3], words[4]);
        }
        return size;
    }

    /** Feeds a text and makes it THE LAW. */
    static int law(DredgePond x, String text) {
        feed(x, text);
        return x.law(text.length());
    }

    /** Lets DAYS go by on which the level stays as it is. */
    static void wait(DredgePond x, int days) {
        for (int i = 0; i < days; i++) {
            x.day(3);
        }
    }
}
