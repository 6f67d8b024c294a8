import java.io.IOException;
import java.nio.file.Files;
import java.nio.file.Path;
import java.util.regex.Pattern;

/** The example of README.md: its calls answer what stands behind them there. */
public final class ReadmeExample {
    private static int calls = 0;
    private static int wrong = 0;

    private ReadmeExample() {
    }

    public static void main(String[] args) throws IOException {
        String text = Files.readString(Path.of("README.md"));
        play(text);
        long told = Pattern.compile("\\btrade\\.[a-z]+\\(.*// -?[0-9]+: ").matcher(text).results().count();
        if (told != calls) {
            complain(told + " calls are in README.md, " + calls + " were played");
        }
        System.out.println(wrong == 0 ? "the example is as told" : wrong + " calls are not as told");
        if (wrong != 0) {
            System.exit(1);
        }
    }

    private static void complain(String what) {
        wrong++;
        System.out.println(what);
    }

    private static void play(String text) {
        IceTrade trade = new IceTrade();
        int cellar = trade.room(1, 3, 2, 2, IceTrade.NONE);
        told(text, "room(1, 3, 2, 2, IceTrade.NONE)", cellar);
        told(text, "lay(cellar, 0, 0)", trade.lay(cellar, 0, 0));
        int clear = trade.cut(cellar, 0, 1, 25000);
        told(text, "cut(cellar, 0, 1, 25000)", clear);
        int plain = trade.cut(cellar, 1, 0, 18000);
        told(text, "cut(cellar, 1, 0, 18000)", plain);
        told(text, "put(cellar, 2, 0)", trade.put(cellar, 2, 0));
        told(text, "warm(0, Float.floatToRawIntBits(12.5f))", trade.warm(0, Float.floatToRawIntBits(12.5f)));
        told(text, "block(plain, 8)", trade.block(plain, 8));
        told(text, "foretell(10, 0)", trade.foretell(10, 0));
        told(text, "foretold(IceTrade.NONE, 10)", trade.foretold(IceTrade.NONE, 10));
        told(text, "day()", trade.day());
        told(text, "way(3, 2)", trade.way(3, 2));
        told(text, "price(1, 300)", trade.price(1, 300));
        told(text, "send(cellar, 15000)", trade.send(cellar, 15000));
        told(text, "sent(1)", trade.sent(1));
        told(text, "sent(2)", trade.sent(2));
        told(text, "send(cellar, 90000)", trade.send(cellar, 90000));
        told(text, "sent(0)", trade.sent(0));
        told(text, "status()", trade.status());
    }

    private static void told(String text, String call, int answer) {
        calls++;
        String line = Pattern.quote("trade." + call + ";") + " +// " + answer + ": ";
        if (!Pattern.compile(line).matcher(text).find()) {
            complain("trade." + call + " answered " + answer + ", which README.md does not tell");
        }
    }
}
