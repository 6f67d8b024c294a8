import java.io.IOException;
import java.nio.file.Files;
import java.nio.file.Path;
import java.util.ArrayList;
import java.util.List;

/** What the tests of boundaries share: each quotes the sentence that it tests, and prints what is not as due. */
abstract class Bounds {
    static final int NOT_A_NUMBER = 0x7fc00000;
    static final int LEAST_INT = Integer.MIN_VALUE;
    static final int MOST_INT = Integer.MAX_VALUE;

    static final int ROOM = 0;
    static final int CELLAR = 1;
    static final int INNER = 2;
    static final int BOAT = 3;
    static final int CART = 4;
    static final int PIT = 5;

    static final int PLAIN = 0;
    static final int CLEAR = 1;
    static final int SALT = 2;

    static final int STRAW = 0;
    static final int DRAIN = 1;

    private static final Path DOCUMENT = Path.of("../shared/DOC.md");
    private static final List<String> quoted = new ArrayList<>();
    private static String sentence = "";
    private static int wrong = 0;

    static void says(String words) {
        sentence = words;
        quoted.add(words);
    }

    static void due(String call, int got, int want) {
        if (got != want) {
            wrong++;
            System.out.println("\"" + sentence + "\": " + call + " answered " + got + ", due is " + want);
        }
    }

    static void dueAll(String call, List<Integer> got, List<Integer> want) {
        if (!got.equals(want)) {
            wrong++;
            System.out.println("\"" + sentence + "\": " + call + ": " + got + ", due is " + want);
        }
    }

    static void end() {
        lookUpTheQuotes();
        System.out.println(wrong == 0 ? "all " + quoted.size() + " sentences hold" : wrong + " answers are not as due");
        if (wrong != 0) {
            System.exit(1);
        }
    }

    /** So that no test is kept for a sentence that the document does not have. */
    private static void lookUpTheQuotes() {
        String text;
        try {
            text = Files.readString(DOCUMENT).replaceAll("\\s+", " ");
        } catch (IOException e) {
            System.out.println("the quotes are not looked up: " + e);
            return;
        }
        for (String words : quoted) {
            if (!text.contains(words)) {
                wrong++;
                System.out.println("not in the document: " + words);
            }
        }
    }

    static int bits(float value) {
        return Float.floatToRawIntBits(value);
    }

    /** OUTSIDE of a day so that its TENTHS are these, with room for the float on either side. */
    static void tell(IceTrade t, int day, int tenths) {
        float half = tenths == 0 || Math.abs(tenths) == 600 ? 0f : Math.signum(tenths) * 0.5f;
        due("a warm() for TENTHS " + tenths, t.warm(day, bits((tenths + half) / 10f)), 0);
    }

    static int addRoom(IceTrade t, int kind, int width, int rows, int layers, int in) {
        int number = t.room(kind, width, rows, layers, in);
        for (int z = 0; z < layers; z++) {
            for (int y = 0; y < rows; y++) {
                t.lay(number, z, y);
            }
        }
        return number;
    }

    /** A trade with one ROOM, all of its ROWS LAID. */
    static IceTrade with(int kind, int width, int rows, int layers) {
        IceTrade t = new IceTrade();
        addRoom(t, kind, width, rows, layers, -1);
        return t;
    }

    static void goTo(IceTrade t, int today) {
        for (int d = t.count(0); d < today; d++) {
            t.day();
        }
    }

    static void fillHeap(IceTrade t, int blocks) {
        for (int i = 0; i < blocks; i++) {
            t.heap(i % 3, 1000 + i);
        }
    }
}
