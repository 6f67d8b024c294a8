import java.lang.reflect.InvocationTargetException;
import java.lang.reflect.Method;
import java.lang.reflect.Modifier;
import java.util.Arrays;
import java.util.Comparator;
import java.util.Random;

/** Rule 7 of LANGUAGE.md: every call, with numbers at and far beyond the limits, on objects that are well filled. */
public final class NeverThrows {
    private static final int RUNS = 600;
    private static final int CALLS = 1000;
    private static final int[] EDGES = {Integer.MIN_VALUE, Integer.MIN_VALUE + 1, Integer.MAX_VALUE, -2, 5, 6, 7, 8, 9,
        10, 11, 12, 15, 16, 20, 21, 29, 30, 36, 100, 101, 179, 180, 199, 200, 201, 299, 300, 301, 999, 1000, 5000, 5001,
        10000, 10001, 1000000, 1000001, 100000000, 100000001, 0x7fc00000, 0x7f800000, 0x42700000, 0xc2700001};

    private static int wrong = 0;

    private NeverThrows() {
    }

    public static void main(String[] args) throws IllegalAccessException {
        Method[] calls = Arrays.stream(IceTrade.class.getDeclaredMethods())
            .filter(m -> Modifier.isPublic(m.getModifiers())).sorted(Comparator.comparing(Method::getName))
            .toArray(Method[]::new);
        for (int seed = 1; seed <= RUNS && wrong < 20; seed++) {
            Random dice = new Random(seed);
            IceTrade trade = filled(dice);
            for (int c = 0; c < CALLS; c++) {
                call(trade, calls[dice.nextInt(calls.length)], dice, seed);
            }
            loseNoGram(trade, seed);
        }
        System.out.println(wrong == 0 ? "no call threw" : wrong + " calls are not as due");
        if (wrong != 0) {
            System.exit(1);
        }
    }

    private static void complain(String what) {
        wrong++;
        System.out.println(what);
    }

    private static IceTrade filled(Random dice) {
        IceTrade trade = new IceTrade();
        int rooms = 1 + dice.nextInt(8);
        for (int r = 0; r < rooms; r++) {
            int kind = r == 0 ? 5 : dice.nextInt(6);
            int width = 1 + dice.nextInt(6);
            int rows = 1 + dice.nextInt(6);
            int layers = 1 + dice.nextInt(5);
            trade.room(kind, width, rows, layers, kind == 2 ? dice.nextInt(r) : -1);
            for (int row = 0; row < rows * layers; row++) {
                if (dice.nextInt(12) != 0) {
                    trade.lay(r, row / rows, row % rows);
                }
            }
            for (int place = 0; place < width * rows * layers; place++) {
                putSomething(trade, r, place, dice);
            }
        }
        if (trade.count(10) != rooms) {
            complain("there are " + trade.count(10) + " ROOMS, due are " + rooms);
        }
        return trade;
    }

    private static void putSomething(IceTrade trade, int room, int place, Random dice) {
        int luck = dice.nextInt(10);
        if (luck < 5) {
            trade.cut(room, place, dice.nextInt(3), 1000 + dice.nextInt(90000));
        } else if (luck < 7) {
            trade.put(room, place, luck - 5);
        }
    }

    private static void call(IceTrade trade, Method method, Random dice, int seed) throws IllegalAccessException {
        Object[] numbers = new Object[method.getParameterCount()];
        for (int i = 0; i < numbers.length; i++) {
            numbers[i] = number(dice);
        }
        try {
            method.invoke(trade, numbers);
        } catch (InvocationTargetException e) {
            complain("seed " + seed + ": " + method.getName() + Arrays.toString(numbers) + " threw " + e.getCause());
        }
    }

    private static int number(Random dice) {
        int luck = dice.nextInt(10);
        if (luck < 6) {
            return dice.nextInt(6) - 1;
        }
        return luck < 9 ? EDGES[dice.nextInt(EDGES.length)] : dice.nextInt();
    }

    private static void loseNoGram(IceTrade trade, int seed) {
        int kept = trade.count(2) + trade.count(3) + trade.count(4) + trade.count(5);
        if (kept != trade.count(1) || trade.count(6) + trade.count(7) != trade.count(4)) {
            complain("seed " + seed + ": grams are lost");
        }
    }
}
