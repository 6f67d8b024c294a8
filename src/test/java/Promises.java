/** Each promise by itself: ordinary inputs, the edges that the document names, wrong inputs. */
public final class Promises {
    private static int wrong = 0;
    private static int promise = 0;

    private static void due(String call, int got, int want) {
        if (got != want) {
            wrong++;
            System.out.println("promise " + promise + ": " + call + " answered " + got + ", due is " + want);
        }
    }

    public static void main(String[] args) {
        promise1();
        promise2();
        promise3();
        promise4();
        promise5();
        promise6();
        promise7();
        promise8();
        promise9();
        promise10();
        promise11();
        promise12();
        promise13();
        promise14();
        promise15();
        promise16();
        promise17();
        promise18();
        promise19();
        promise20();
        promise21();
        promise22();
        promise23();
        promise24();
        promise25();
        promise26();
        promise27();
        promise28();
        promise29();
        promise30();
        promise31();
        promise32();
        promise33();
        promise34();
        promise35();
        System.out.println(wrong == 0 ? "all promises hold" : wrong + " answers are not as due");
        if (wrong != 0) {
            System.exit(1);
        }
    }

    private static int bits(float value) {
        return Float.floatToRawIntBits(value);
    }

    /** A trade with one ROOM of a kind, all of its ROWS LAID. */
    private static IceTrade withRoom(int kind, int width, int rows, int layers) {
        IceTrade t = new IceTrade();
        addRoom(t, kind, width, rows, layers, -1);
        return t;
    }

    private static int addRoom(IceTrade t, int kind, int width, int rows, int layers, int in) {
        int number = t.room(kind, width, rows, layers, in);
        for (int z = 0; z < layers; z++) {
            for (int y = 0; y < rows; y++) {
                t.lay(number, z, y);
            }
        }
        return number;
    }

    private static void promise1() {
        promise = 1;
        IceTrade t = new IceTrade();
        for (int what = 0; what <= 15; what++) {
            due("count(" + what + ")", t.count(what), 0);
        }
        due("NONE", IceTrade.NONE, -1);
        due("rooms(0, 0)", t.rooms(0, 0), -2);
        due("block(0, 0)", t.block(0, 0), -2);
        due("place(0, 0)", t.place(0, 0), -2);
        due("next(0)", t.next(0), -2);
        due("tenths(0)", t.tenths(0), 0);
        due("tenths(199)", t.tenths(199), 0);
        due("sent(0)", t.sent(0), 0);
        due("list(0)", t.list(0), -1);
        due("last()", t.last(), -1);
        due("foretold(-1, 0)", t.foretold(-1, 0), -1);
        due("line(0, 0)", t.line(0, 0), -2);
        due("check()", t.check(), -7);
        due("home()", t.home(), 0);
        due("back(0)", t.back(0), -2);
    }

    private static void promise2() {
        promise = 2;
        IceTrade t = new IceTrade();
        due("kind -1", t.room(-1, 1, 1, 1, -1), -1);
        due("kind 6", t.room(6, 1, 1, 1, -1), -1);
        due("width 0", t.room(0, 0, 1, 1, -1), -1);
        due("width 7", t.room(0, 7, 1, 1, -1), -1);
        due("rows 0", t.room(0, 1, 0, 1, -1), -1);
        due("rows 7", t.room(0, 1, 7, 1, -1), -1);
        due("layers 0", t.room(0, 1, 1, 0, -1), -1);
        due("layers 6", t.room(0, 1, 1, 6, -1), -1);
        due("in of none INNER", t.room(0, 1, 1, 1, -2), -1);
        due("INNER in none", t.room(2, 1, 1, 1, -1), -1);
        due("INNER in itself", t.room(2, 1, 1, 1, 0), -1);
        due("the largest", t.room(5, 6, 6, 5, -1), 0);
        due("others must not be in one", t.room(1, 1, 1, 1, 0), -1);
        due("INNER", t.room(2, 1, 1, 1, 0), 1);
        due("INNER in INNER", t.room(2, 1, 1, 1, 1), 2);
        for (int number = 3; number < 8; number++) {
            due("room " + number, t.room(number - 3 == 2 ? 0 : number - 3, 1, 1, 1, -1), number);
        }
        due("too many", t.room(0, 1, 1, 1, -1), -6);
        due("-1 ahead of -6", t.room(0, 1, 1, 1, 0), -1);
        due("count(10)", t.count(10), 8);
    }

    private static void promise3() {
        promise = 3;
        IceTrade t = withRoom(0, 3, 2, 2);
        addRoom(t, 1, 1, 1, 1, -1);
        addRoom(t, 2, 2, 1, 1, 1);
        addRoom(t, 3, 1, 1, 1, -1);
        addRoom(t, 4, 1, 1, 1, -1);
        addRoom(t, 5, 1, 1, 1, -1);
        addRoom(t, 2, 1, 1, 1, 2);
        int[] shape = {0, 3, 2, 2, -1};
        for (int what = 0; what < 5; what++) {
            due("rooms(0, " + what + ")", t.rooms(0, what), shape[what]);
        }
        due("rooms(6, 4)", t.rooms(6, 4), 2);
        t.warm(0, bits(-10.1f));
        due("ROOM", t.rooms(0, 5), -101);
        due("CELLAR, cut towards 0", t.rooms(1, 5), -10);
        due("INNER", t.rooms(2, 5), -10);
        due("BOAT", t.rooms(3, 5), -91);
        due("CART", t.rooms(4, 5), -71);
        due("PIT", t.rooms(5, 5), -10);
        t.cut(1, 0, 2, 5000);
        t.cut(2, 0, 2, 5000);
        t.cut(2, 1, 2, 5000);
        t.cut(6, 0, 2, 5000);
        due("SALT of a CELLAR", t.rooms(1, 5), -12);
        due("SALT of an INNER one", t.rooms(2, 5), -16);
        due("INNER in INNER", t.rooms(6, 5), -18);
        t.cut(0, 0, 0, 4000);
        t.cut(0, 1, 1, 5000);
        t.cut(0, 6, 0, 6000);
        t.put(0, 7, 0);
        due("BLOCKS", t.rooms(0, 6), 3);
        due("grams", t.rooms(0, 7), 15000);
        due("LED", t.rooms(0, 8), 0);
        due("STANDING", t.rooms(0, 9), 0);
        due("sides in air", t.rooms(0, 10), 4 + 4 + 4);
        due("FREE", t.rooms(0, 11), 2);
        due("no such ROOM", t.rooms(7, 0), -2);
        due("no such ROOM", t.rooms(-1, 0), -2);
        due("what 12", t.rooms(0, 12), -1);
        due("what -1", t.rooms(0, -1), -1);
        due("-1 ahead of -2", t.rooms(9, 12), -1);
        oneWithinAnother();
    }

    private static void oneWithinAnother() {
        IceTrade t = withRoom(4, 1, 1, 1);
        t.cut(0, 0, 2, 1000);
        for (int n = 1; n < 8; n++) {
            addRoom(t, 2, 1, 1, 1, n - 1);
            t.cut(n, 0, 2, 1000);
            due("WARMTH of " + n, t.rooms(n, 5), 30 - 2 - 2 * n);
        }
    }

    private static void promise4() {
        promise = 4;
        IceTrade t = new IceTrade();
        t.room(0, 1, 2, 3, -1);
        due("no ROOM, wrong layer", t.lay(1, 9, 9), -2);
        due("no ROOM -1", t.lay(-1, 0, 0), -2);
        due("layer -1", t.lay(0, -1, 0), -1);
        due("layer 3", t.lay(0, 3, 0), -1);
        due("row -1", t.lay(0, 0, -1), -1);
        due("row 2", t.lay(0, 0, 2), -1);
        due("nothing beneath", t.lay(0, 1, 1), -7);
        due("laid", t.lay(0, 0, 1), 0);
        due("already", t.lay(0, 0, 1), -7);
        due("on it", t.lay(0, 1, 1), 0);
        due("of another row", t.lay(0, 1, 0), -7);
        due("two above", t.lay(0, 2, 0), -7);
        due("the third", t.lay(0, 2, 1), 0);
        due("place", t.place(0, 5), 0);
        due("place", t.place(0, 4), -3);
    }

    private static void promise5() {
        promise = 5;
        IceTrade t = withRoom(0, 2, 2, 2);
        due("no ROOM", t.tear(1, 9, 9), -2);
        due("layer", t.tear(0, 2, 0), -1);
        due("layer", t.tear(0, -1, 0), -1);
        due("row", t.tear(0, 0, 2), -1);
        due("row", t.tear(0, 0, -1), -1);
        due("one above", t.tear(0, 0, 0), -7);
        t.cut(0, 3, 0, 1000);
        t.put(0, 7, 1);
        due("holds a DRAIN", t.tear(0, 1, 1), -7);
        t.clear(0, 7);
        due("torn", t.tear(0, 1, 1), 0);
        due("not LAID", t.tear(0, 1, 1), -3);
        due("holds a BLOCK", t.tear(0, 0, 1), -7);
        t.take(0, 1);
        due("torn", t.tear(0, 0, 1), 0);
        due("place", t.place(0, 2), -3);
        due("laid anew", t.lay(0, 0, 1), 0);
    }

    private static void promise6() {
        promise = 6;
        IceTrade t = new IceTrade();
        t.room(0, 2, 1, 2, -1);
        due("kind -1", t.cut(0, 0, -1, 1000), -1);
        due("kind 3", t.cut(0, 0, 3, 1000), -1);
        due("grams 999", t.cut(0, 0, 0, 999), -1);
        due("grams 1000001", t.cut(0, 0, 0, 1000001), -1);
        due("kind ahead of ROOM", t.cut(9, 0, 3, 1000), -1);
        due("ROOM ahead of PLACE", t.cut(9, 99, 0, 1000), -2);
        due("PLACE 4", t.cut(0, 4, 0, 1000), -1);
        due("PLACE -1", t.cut(0, -1, 0, 1000), -1);
        due("not LAID", t.cut(0, 0, 0, 1000), -3);
        t.lay(0, 0, 0);
        t.lay(0, 1, 0);
        due("nothing beneath", t.cut(0, 2, 0, 1000), -5);
        due("cut", t.cut(0, 0, 0, 1000), 0);
        due("not free", t.cut(0, 0, 0, 1000), -4);
        due("on a BLOCK", t.cut(0, 2, 2, 1000000), 1);
        t.put(0, 1, 1);
        due("on a DRAIN", t.cut(0, 3, 0, 1000), -5);
        t.clear(0, 1);
        t.put(0, 1, 0);
        due("on STRAW", t.cut(0, 3, 1, 1000), 2);
        due("grams CUT", t.count(1), 1002000);

        IceTrade full = withRoom(0, 6, 6, 5);
        addRoom(full, 0, 6, 6, 4, -1);
        for (int b = 0; b < 180; b++) {
            due("cut " + b, full.cut(0, b, 0, 1000), b);
        }
        for (int b = 180; b < 300; b++) {
            due("cut " + b, full.cut(1, b - 180, 0, 1000), b);
        }
        due("the 301st where one is", full.cut(1, 0, 0, 1000), -4);
        due("the 301st", full.cut(1, 120, 0, 1000), -6);
        full.take(0, 1);
        due("ever", full.cut(0, 144, 0, 1000), -6);
    }

    private static void promise7() {
        promise = 7;
        IceTrade t = new IceTrade();
        t.room(0, 2, 1, 3, -1);
        due("what 2", t.put(0, 0, 2), -1);
        due("what -1 of no ROOM", t.put(9, 0, -1), -1);
        due("no ROOM", t.put(9, 99, 0), -2);
        due("PLACE", t.put(0, 6, 0), -1);
        due("not LAID", t.put(0, 0, 0), -3);
        for (int z = 0; z < 3; z++) {
            t.lay(0, z, 0);
        }
        due("STRAW", t.put(0, 0, 0), 0);
        due("not free", t.put(0, 0, 1), -4);
        due("STRAW on STRAW", t.put(0, 2, 0), 0);
        due("a DRAIN on STRAW", t.put(0, 4, 1), 0);
        due("a DRAIN", t.put(0, 1, 1), 0);
        due("a DRAIN on a DRAIN", t.put(0, 3, 1), -5);
        addRoom(t, 3, 2, 1, 1, -1);
        addRoom(t, 3, 1, 1, 2, -1);
        addRoom(t, 4, 1, 1, 2, -1);
        due("STRAW on a BOAT of one layer", t.put(1, 0, 0), -7);
        due("a DRAIN there", t.put(1, 0, 1), 0);
        due("not free ahead of -7", t.put(1, 0, 0), -4);
        due("STRAW on a BOAT of two", t.put(2, 0, 0), 0);
        due("nothing beneath ahead of -7", t.put(3, 1, 0), -5);
        due("STRAW on a CART", t.put(3, 0, 0), -7);
        due("a DRAIN on a CART", t.put(3, 0, 1), 0);
    }

    private static void promise8() {
        promise = 8;
        IceTrade t = new IceTrade();
        t.room(0, 2, 1, 2, -1);
        due("no ROOM", t.clear(1, 99), -2);
        due("PLACE", t.clear(0, 4), -1);
        due("PLACE", t.clear(0, -1), -1);
        due("not LAID", t.clear(0, 0), -3);
        t.lay(0, 0, 0);
        t.lay(0, 1, 0);
        due("nothing", t.clear(0, 0), -7);
        t.put(0, 0, 0);
        t.put(0, 2, 1);
        due("a DRAIN above", t.clear(0, 0), -7);
        due("the DRAIN", t.clear(0, 2), 0);
        due("the STRAW", t.clear(0, 0), 0);
        due("place", t.place(0, 0), 0);
        t.cut(0, 0, 0, 1000);
        due("a BLOCK", t.clear(0, 0), -7);
        t.cut(0, 2, 0, 30000);
        t.warm(0, bits(1f));
        t.day();
        due("the one beneath is GONE", t.place(0, 0), 0);
        due("the one above stays", t.place(0, 2), 11);
        due("a DRAIN beneath it", t.put(0, 0, 1), 0);
        due("not to be cleared then", t.clear(0, 0), -7);
    }

    private static void promise9() {
        promise = 9;
        IceTrade t = new IceTrade();
        t.room(0, 2, 2, 1, -1);
        due("no ROOM", t.place(-1, 99), -2);
        due("PLACE", t.place(0, 4), -1);
        due("not LAID", t.place(0, 3), -3);
        t.lay(0, 0, 1);
        due("not LAID", t.place(0, 1), -3);
        due("nothing", t.place(0, 3), 0);
        t.put(0, 3, 0);
        due("STRAW", t.place(0, 3), 1);
        t.clear(0, 3);
        t.put(0, 3, 1);
        due("a DRAIN", t.place(0, 3), 2);
        t.cut(0, 2, 0, 1000);
        due("BLOCK 0", t.place(0, 2), 10);
        t.take(0, 1);
        due("TAKEN", t.place(0, 2), 0);
        t.cut(0, 2, 0, 1000);
        due("BLOCK 1", t.place(0, 2), 11);
    }

    private static void dueOfBlock(IceTrade t, int block, int[] want) {
        for (int what = 0; what < want.length; what++) {
            due("block(" + block + ", " + what + ")", t.block(block, what), want[what]);
        }
    }

    private static void promise10() {
        promise = 10;
        IceTrade t = withRoom(0, 3, 1, 2);
        t.warm(0, bits(1f));
        t.warm(1, bits(2f));
        t.cut(0, 1, 1, 5000);
        t.put(0, 0, 0);
        t.cut(0, 2, 2, 1000);
        t.cut(0, 4, 0, 1000);
        t.put(0, 3, 1);
        // WARMTH 8: 24 a side, SALT 40; of STRAW 9
        dueOfBlock(t, 0, new int[] {1, 5000, 0, 1, 0, -1, 3, 1, 3 * 24 + 9, 0});
        dueOfBlock(t, 1, new int[] {2, 1000, 0, 2, 0, -1, 5, 0, 5 * 40, 1});
        t.day();
        dueOfBlock(t, 0, new int[] {1, 4919, 0, 1, 0, 0, 5, 1, 5 * 60 + 24, 1});
        dueOfBlock(t, 1, new int[] {2, 0, -1, -1, 0, -1, 0, 0, 0, 0});
        dueOfBlock(t, 2, new int[] {0, 0, -1, -1, 0, -1, 0, 0, 0, 0});
        t.cut(0, 2, 2, 1000);
        due("cut on day 1", t.block(3, 4), 1);
        t.take(0, 2);
        dueOfBlock(t, 0, new int[] {1, 4919, -1, -1, 0, 0, 0, 0, 0, 0});
        due("no BLOCK 4", t.block(4, 0), -2);
        due("no BLOCK -1", t.block(-1, 0), -2);
        due("what 10", t.block(0, 10), -1);
        due("what -1 of none", t.block(99, -1), -1);
        straw();
        water();
    }

    private static void straw() {
        IceTrade t = withRoom(0, 3, 3, 3);
        t.warm(0, bits(1.1f));
        for (int p = 0; p < 9; p++) {
            t.put(0, p, 0);
        }
        for (int p = 9; p < 18; p++) {
            if (p == 13) {
                t.cut(0, p, 0, 90000);
            } else {
                t.put(0, p, 0);
            }
        }
        t.put(0, 22, 0);
        due("all in STRAW", t.block(0, 7), 6);
        due("FREE with STRAW above", t.block(0, 9), 1);
        due("33 times 40 / 100, cut", t.block(0, 8), 6 * 13);
        t.terms(0, 0, 1);
        due("PART 0", t.block(0, 8), 0);
        t.terms(100, 0, 1);
        due("PART 100", t.block(0, 8), 6 * 33);
    }

    private static void water() {
        IceTrade t = withRoom(5, 2, 1, 2);
        t.warm(0, bits(-30f));
        t.cut(0, 0, 1, 5000);
        t.cut(0, 2, 1, 5000);
        due("WET without WARMTH", t.block(0, 8), 200);
        due("not in layer 1", t.block(1, 8), 0);
        t.terms(40, 9000, 1);
        due("at most what it weighs", t.block(0, 8), 5000);
        t.put(0, 1, 1);
        due("a DRAIN in the layer", t.block(0, 8), 0);
        t.day();
        due("not SPOILT", t.block(0, 5), -1);
        t.clear(0, 1);
        t.terms(40, 10, 1);
        t.day();
        due("SPOILT in water", t.block(0, 5), 1);
        due("not above it", t.block(1, 5), -1);
        t.day();
        due("the first day", t.block(0, 5), 1);
    }

    private static void promise11() {
        promise = 11;
        IceTrade t = new IceTrade();
        due("day -1", t.warm(-1, 0), -1);
        due("day 200", t.warm(200, 0), -1);
        due("no number on day 200", t.warm(200, bits(Float.NaN)), -1);
        due("60", t.warm(0, bits(60f)), 0);
        due("-60", t.warm(1, bits(-60f)), 0);
        due("just above 60", t.warm(2, bits(60f) + 1), -1);
        due("just below -60", t.warm(2, bits(-60f) + 1), -1);
        due("infinite", t.warm(2, bits(Float.POSITIVE_INFINITY)), -1);
        due("infinite below", t.warm(2, bits(Float.NEGATIVE_INFINITY)), -1);
        due("tenths(0)", t.tenths(0), 600);
        due("tenths(1)", t.tenths(1), -600);
        due("tenths(2)", t.tenths(2), -600);
        due("-0.0", t.warm(2, 0x80000000), 0);
        due("tenths(2)", t.tenths(2), 0);
        due("no number", t.warm(1, 0x7f800001), 0);
        due("tenths(1)", t.tenths(1), 600);
        due("no number below", t.warm(0, -1), 0);
        due("tenths(0)", t.tenths(0), 0);
        due("tenths(1)", t.tenths(1), 0);
        due("the least of all", t.warm(199, 1), 0);
        due("tenths(199)", t.tenths(199), 0);
    }

    private static void promise12() {
        promise = 12;
        IceTrade t = new IceTrade();
        due("day -1", t.tenths(-1), -1000);
        due("day 200", t.tenths(200), -1000);
        t.warm(3, bits(7.5f));
        due("ahead of any", t.tenths(2), 0);
        due("told", t.tenths(3), 75);
        due("not told", t.tenths(199), 75);
        // 0.7f lies below 7 tenths, but the product of floats is 7
        t.warm(4, bits(0.7f));
        due("as floats", t.tenths(4), 7);
        t.warm(5, bits(-1.19f));
        due("cut", t.tenths(5), -11);
        for (int i = -6000; i <= 6000; i++) {
            float value = i / 100f;
            // an object is good for 512 calls
            t = i % 200 == 0 ? new IceTrade() : t;
            t.warm(6, bits(value));
            due("tenths of " + value, t.tenths(6), (int) (value * 10.0f));
        }
    }

    private static void promise13() {
        promise = 13;
        IceTrade t = withRoom(5, 1, 1, 1);
        t.cut(0, 0, 0, 20000);
        due("part -1", t.terms(-1, 0, 1), -1);
        due("part 101", t.terms(101, 0, 1), -1);
        due("wet -1", t.terms(0, -1, 1), -1);
        due("wet 10001", t.terms(0, 10001, 1), -1);
        due("least 0", t.terms(0, 0, 0), -1);
        due("least 1000001", t.terms(0, 0, 1000001), -1);
        due("at first", t.block(0, 8), 6 * 120 + 200);
        due("the most", t.terms(100, 10000, 1000000), 0);
        due("WET", t.block(0, 8), 6 * 120 + 10000);
        due("day", t.day(), 10720);
        due("LEAST", t.block(0, 2), -1);
        due("GONE", t.count(5), 9280);
        due("the least", t.terms(0, 0, 1), 0);
    }

    private static void promise14() {
        promise = 14;
        IceTrade t = withRoom(0, 1, 1, 5);
        t.warm(0, bits(10f));
        t.cut(0, 0, 0, 4000);
        t.cut(0, 1, 0, 2200);
        due("LOSS of 0", t.block(0, 8), 5 * 300);
        due("LOSS of 1", t.block(1, 8), 5 * 300);
        due("MELTED", t.day(), 3000);
        due("TODAY", t.count(0), 1);
        due("left", t.block(0, 1), 2500);
        due("GONE", t.block(1, 2), -1);
        due("grams GONE", t.count(5), 700);
        due("all by how they lay", t.day(), 1800);
        due("nothing is left", t.count(9), 0);
        for (int d = 2; d < 199; d++) {
            due("day " + d, t.day(), 0);
        }
        due("TODAY is 199", t.day(), -7);
        due("TODAY", t.count(0), 199);
        drains();
        exactlyLeast();
    }

    private static void drains() {
        IceTrade t = withRoom(0, 2, 1, 4);
        t.warm(0, bits(1f));
        t.cut(0, 0, 0, 90000);
        t.cut(0, 2, 0, 90000);
        t.cut(0, 1, 0, 90000);
        t.cut(0, 3, 0, 1000);
        t.cut(0, 5, 0, 90000);
        int melted = t.day();
        due("STANDING", t.rooms(0, 9), melted);
        due("3 is GONE", t.place(0, 3), 0);
        t.put(0, 3, 1);
        int above = t.block(4, 8);
        melted = t.day();
        due("LED by the DRAIN in the column", t.rooms(0, 8), above);
        due("LED", t.count(6), above);
        due("LED and STANDING are MELTED", t.count(6) + t.count(7), t.count(4));
        due("not in the other", melted > above ? 1 : 0, 1);
        IceTrade floor = withRoom(0, 2, 1, 2);
        floor.warm(0, bits(1f));
        floor.put(0, 0, 1);
        floor.cut(0, 1, 0, 5000);
        floor.cut(0, 3, 0, 5000);
        due("LED by the floor", floor.day(), floor.rooms(0, 8));
    }

    private static void exactlyLeast() {
        IceTrade t = withRoom(0, 2, 1, 1);
        t.warm(0, bits(1f));
        t.cut(0, 0, 0, 1150);
        t.cut(0, 1, 0, 1149);
        due("MELTED", t.day(), 300);
        due("LEAST is left", t.block(0, 1), 1000);
        due("one less is GONE", t.block(1, 1), 0);
        t.warm(1, bits(-5f));
        t.terms(40, 200, 1001);
        due("a cold day", t.day(), 0);
        due("below LEAST without LOSS", t.block(0, 2), -1);
        due("grams GONE", t.count(5), 1999);
        due("no LINE without LOSS", t.count(13), 0);
    }

    private static void promise15() {
        promise = 15;
        IceTrade t = withRoom(0, 2, 1, 1);
        addRoom(t, 5, 1, 1, 1, -1);
        t.warm(0, bits(1f));
        t.cut(0, 0, 0, 5000);
        t.cut(0, 1, 0, 4000);
        t.cut(1, 0, 0, 1000);
        t.take(0, 1);
        t.way(3, 2);
        t.way(4, 5);
        t.heap(0, 1000);
        t.day();
        // THE NEXT was BLOCK 0; BLOCK 1 loses 180, the one in the PIT 6 * 135 + 200, at most 1000
        int[] want = {1, 10000, 3820, 5000, 1180, 0, 0, 1180, 3, 1, 2, 2, 7, 2, 1, 1};
        for (int what = 0; what < want.length; what++) {
            due("count(" + what + ")", t.count(what), want[what]);
        }
        due("count(16)", t.count(16), -1);
        due("count(-1)", t.count(-1), -1);
    }

    private static void promise16() {
        promise = 16;
        IceTrade t = withRoom(0, 3, 1, 3);
        due("none", t.next(0), -1);
        due("no ROOM", t.next(1), -2);
        due("no ROOM", t.next(-1), -2);
        t.cut(0, 2, 0, 5000);
        t.cut(0, 1, 0, 5000);
        t.cut(0, 0, 0, 5000);
        due("alike: the lowest PLACE", t.next(0), 2);
        t.cut(0, 4, 0, 5000);
        due("the highest layer", t.next(0), 3);
        t.warm(0, bits(1f));
        due("the greatest LOSS", t.next(0), 3);
        t.put(0, 7, 0);
        due("STRAW leaves it FREE", t.block(3, 9), 1);
        due("STRAW makes its LOSS less", t.next(0), 2);
        t.put(0, 3, 0);
        t.put(0, 5, 0);
        due("sides in air", t.next(0), 2);
        due("of 2", t.block(2, 8), 30 * 4 + 12);
        due("of 3", t.block(3, 8), 30 * 2 + 12 * 3);
        t.take(0, 4);
        due("none", t.next(0), -1);
    }

    private static void promise17() {
        promise = 17;
        IceTrade t = withRoom(0, 2, 1, 2);
        due("n 0", t.take(9, 0), -1);
        due("n 301", t.take(0, 301), -1);
        due("no ROOM", t.take(1, 1), -2);
        due("none there", t.take(0, 1), -6);
        t.warm(0, bits(1f));
        t.cut(0, 0, 0, 5000);
        t.cut(0, 1, 0, 6000);
        t.cut(0, 2, 2, 7000);
        due("not so many", t.take(0, 4), -6);
        due("all stay", t.count(9), 3);
        due("two", t.take(0, 2), 12000);
        due("list(0)", t.list(0), 2);
        due("the one beneath is FREE then", t.list(1), 0);
        due("SOLD", t.count(3), 12000);
        due("in ROOMS", t.count(2), 6000);
        due("300", t.take(0, 300), -6);
        due("the last", t.take(0, 1), 6000);
        due("MELTED", t.count(4), 0);
    }

    private static void promise18() {
        promise = 18;
        IceTrade t = new IceTrade();
        due("kind 2", t.way(2, 1), -1);
        due("kind 5", t.way(5, 1), -1);
        due("days -1", t.way(3, -1), -1);
        due("days 21", t.way(4, 21), -1);
        for (int n = 1; n <= 6; n++) {
            due("stretch " + n, t.way(3 + n % 2, n == 1 ? 0 : 20), n);
        }
        due("too many", t.way(3, 0), -6);
        due("-1 ahead of -6", t.way(3, 21), -1);
        due("days", t.count(12), 100);
    }

    private static void promise19() {
        promise = 19;
        IceTrade t = new IceTrade();
        due("none", t.home(), 0);
        t.way(3, 4);
        t.way(4, 5);
        due("two", t.home(), 2);
        due("STRETCHES", t.count(11), 0);
        due("days", t.count(12), 0);
        due("again", t.way(4, 6), 1);
        due("days", t.count(12), 6);
    }

    private static void promise20() {
        promise = 20;
        IceTrade t = withRoom(0, 3, 1, 1);
        t.warm(0, bits(1f));
        t.warm(1, bits(-2f));
        due("n -1", t.comes(9, -1), -1);
        due("n 301", t.comes(0, 301), -1);
        due("no ROOM", t.comes(1, 0), -2);
        due("none of none", t.comes(0, 0), 0);
        due("not so many", t.comes(0, 1), -6);
        t.cut(0, 0, 2, 5000);
        t.cut(0, 2, 0, 5000);
        due("without a WAY", t.comes(0, 2), 10000);
        t.way(3, 0);
        due("a WAY of no days", t.comes(0, 2), 10000);
        t.way(3, 1);
        due("SALT on a BOAT", t.comes(0, 1), 5000 - 6 * 5 * 20);
        due("both", t.comes(0, 2), 5000 - 6 * 5 * 20 + 5000 - 6 * 3 * 20);
        t.way(4, 2);
        due("a CART on days 1 and 2", t.comes(0, 1), 5000 - 600 - 2 * 6 * 5 * 10);
        t.terms(40, 200, 3801);
        due("below LEAST at a day's end", t.comes(0, 1), 0);
        t.terms(40, 200, 3800);
        due("LEAST at THE WAY's end", t.comes(0, 1), 3800);
        due("all lies as it did", t.count(9), 2);
        due("SOLD", t.count(3), 0);
        lateWay();
    }

    private static void lateWay() {
        IceTrade t = withRoom(0, 1, 1, 1);
        t.warm(199, bits(1f));
        for (int d = 0; d < 198; d++) {
            t.day();
        }
        t.cut(0, 0, 0, 9000);
        t.way(3, 3);
        due("days behind 199 are as 199", t.comes(0, 1), 9000 - 18 * 10 - 2 * 18 * 20);
    }

    private static void promise21() {
        promise = 21;
        IceTrade t = withRoom(0, 3, 1, 1);
        due("grams 0", t.send(9, 0), -1);
        due("grams 100000001", t.send(0, 100000001), -1);
        due("no ROOM", t.send(1, 1), -2);
        due("from none", t.send(0, 100000000), -6);
        due("SHORT", t.sent(0), 100000000);
        t.cut(0, 0, 0, 5000);
        t.cut(0, 1, 0, 6000);
        t.cut(0, 2, 0, 7000);
        t.way(3, 1);
        // without WARMTH of the day the BOAT takes 180
        due("just enough for one", t.send(0, 4820), 1);
        due("SOLD is what it weighed", t.count(3), 5000);
        due("SHORT by one", t.send(0, 12641), -6);
        due("missing", t.sent(0), 1);
        due("all lies as it did", t.count(2), 13000);
        due("two", t.send(0, 5821), 2);
        due("list(0)", t.list(0), 1);
        due("list(1)", t.list(1), 2);
        due("COME to", t.sent(1), 12640);
        due("block(2, 1)", t.block(2, 1), 7000);
    }

    private static void promise22() {
        promise = 22;
        IceTrade t = withRoom(0, 4, 1, 1);
        for (int what = 0; what < 3; what++) {
            due("ahead of any", t.sent(what), 0);
        }
        due("what 3", t.sent(3), -1);
        due("what -1", t.sent(-1), -1);
        t.price(0, 100);
        t.price(1, 5000);
        t.price(2, 33);
        t.cut(0, 0, 1, 1000000);
        t.cut(0, 2, 1, 1999);
        t.cut(0, 3, 2, 2999);
        t.day();
        due("SPOILT", t.block(1, 5), 0);
        t.way(3, 1);
        due("send", t.send(0, 999820 + 1819 + 1), 3);
        due("SHORT", t.sent(0), 0);
        due("COME to", t.sent(1), 999820 + 1819 + 2699);
        due("BILL", t.sent(2), 5000000 + 199 + 98);
        t.send(0, 0);
        t.send(9, 1);
        due("-1 and -2 leave it", t.sent(2), 5000297);
        due("SHORT", t.send(0, 7), -6);
        due("missing", t.sent(0), 7);
        due("COME to", t.sent(1), 0);
        due("BILL", t.sent(2), 0);
    }

    private static void promise23() {
        promise = 23;
        IceTrade t = withRoom(0, 3, 1, 1);
        due("none", t.list(0), -1);
        t.cut(0, 2, 0, 1000);
        t.cut(0, 1, 0, 1000);
        t.cut(0, 0, 0, 1000);
        t.take(0, 2);
        due("list(-1)", t.list(-1), -1);
        due("list(0)", t.list(0), 2);
        due("list(1)", t.list(1), 1);
        due("list(2)", t.list(2), -1);
        t.take(0, 2);
        t.send(0, 1001);
        due("REFUSED ones leave it", t.list(1), 1);
        due("count(15)", t.count(15), 2);
        t.send(0, 1000);
        due("list(0)", t.list(0), 0);
        due("list(1)", t.list(1), -1);
        due("count(15)", t.count(15), 1);
    }

    private static void promise24() {
        promise = 24;
        IceTrade t = withRoom(0, 1, 1, 1);
        due("kind -1", t.price(-1, 1), -1);
        due("kind 3", t.price(3, 1), -1);
        due("cents -1", t.price(0, -1), -1);
        due("cents 5001", t.price(0, 5001), -1);
        for (int cents = 0; cents <= 5000; cents += 5000) {
            due("cents " + cents, t.price(2, cents), 0);
            t.cut(0, 0, 2, 1500);
            t.send(0, 1);
            due("BILL at " + cents, t.sent(2), cents * 3 / 2);
        }
    }

    private static void promise25() {
        promise = 25;
        IceTrade t = withRoom(0, 1, 1, 1);
        due("days 0", t.foretell(0, 0), -1);
        due("days 201", t.foretell(201, 0), -1);
        due("back -1", t.foretell(1, -1), -1);
        due("back 200", t.foretell(1, 200), -1);
        t.cut(0, 0, 1, 90000);
        t.warm(0, bits(1f));
        t.warm(1, bits(2f));
        t.warm(2, bits(3f));
        t.day();
        t.alter(0, 0, 1);
        due("two", t.foretell(2, 0), 2);
        due("of days 1 and 2", t.foretold(0, 2), 90000 - 180 - 360 - 540);
        due("two", t.foretell(2, 1), 2);
        due("of days 0 and 1", t.foretold(0, 2), 90000 - 180 - 180 - 360);
        due("two", t.foretell(2, 2), 2);
        due("of day 0 twice", t.foretold(0, 2), 90000 - 180 - 180 - 180);
        due("as many as there are", t.foretell(200, 199), 198);
        due("TODAY", t.count(0), 1);
        due("grams", t.count(2), 89820);
        due("MELTED", t.count(4), 180);
        due("STANDING", t.rooms(0, 9), 180);
        due("THE BOOK", t.count(13), 1);
        due("THE BOOK is as it was", t.check(), 0);
        for (int d = 1; d < 199; d++) {
            t.day();
        }
        due("at the end", t.foretell(5, 0), 0);
        due("ahead of the first", t.foretold(0, 0), t.count(2));
        due("foretold(0, 1)", t.foretold(0, 1), -1);
        theLargest();
    }

    /** As many ROOMS, BLOCKS and days as there can be. */
    private static void theLargest() {
        IceTrade t = withRoom(0, 6, 6, 5);
        addRoom(t, 0, 6, 6, 4, -1);
        for (int n = 2; n < 8; n++) {
            t.room(0, 6, 6, 5, -1);
        }
        for (int b = 0; b < 300; b++) {
            t.cut(b < 180 ? 0 : 1, b < 180 ? b : b - 180, 0, 1000000);
        }
        t.warm(0, bits(0.1f));
        t.foretell(200, 0);
        due("days", t.foretold(7, 199), 0);
        int air = t.rooms(0, 10);
        int sides = air + t.rooms(1, 10);
        due("grams behind the last day", t.foretold(-1, 199), 300000000 - 199 * 3 * sides);
        due("MELTED", t.day(), 3 * sides);
        due("all can be TAKEN", t.take(0, 180), 180000000 - 3 * air);
        due("the most that can be SENT", t.send(1, 100000000), 101);
        due("list(100)", t.list(100) >= 180 ? 1 : 0, 1);
        due("list(101)", t.list(101), -1);
    }

    private static void promise26() {
        promise = 26;
        IceTrade t = withRoom(0, 1, 1, 1);
        due("ahead of any", t.foretold(-1, 0), -1);
        addRoom(t, 4, 1, 1, 1, -1);
        t.cut(0, 0, 0, 2000);
        t.cut(1, 0, 0, 3000);
        t.warm(0, bits(1f));
        t.foretell(3, 0);
        t.foretell(0, 0);
        addRoom(t, 0, 1, 1, 1, -1);
        int[][] want = {{5000, 2000, 3000}, {4100, 1820, 2280}, {3200, 1640, 1560}, {1460, 1460, 0}};
        for (int i = 0; i < want.length; i++) {
            for (int room = -1; room < 2; room++) {
                due("foretold(" + room + ", " + i + ")", t.foretold(room, i), want[i][room + 1]);
            }
        }
        due("day 4", t.foretold(-1, 4), -1);
        due("day -1", t.foretold(-1, -1), -1);
        due("a ROOM that was not then", t.foretold(2, 0), -1);
        due("room -2", t.foretold(-2, 0), -1);
    }

    private static void promise27() {
        promise = 27;
        IceTrade t = withRoom(0, 1, 1, 1);
        due("ahead of any", t.last(), -1);
        t.foretell(3, 0);
        due("none at first on day 0", t.last(), -1);
        t.day();
        t.day();
        t.foretell(3, 0);
        due("none at first on day 2", t.last(), 1);
        t.cut(0, 0, 0, 1500);
        t.warm(2, bits(1f));
        t.foretell(2, 0);
        due("some at its end", t.last(), -2);
        t.foretell(3, 0);
        due("the third day", t.last(), 4);
        t.foretell(200, 0);
        due("the first such day", t.last(), 4);
        t.foretell(0, 0);
        due("REFUSED", t.last(), 4);
    }

    private static void promise28() {
        promise = 28;
        IceTrade t = new IceTrade();
        due("kind -1", t.heap(-1, 1000), -1);
        due("kind 3", t.heap(3, 1000), -1);
        due("grams 999", t.heap(0, 999), -1);
        due("grams 1000001", t.heap(0, 1000001), -1);
        for (int n = 1; n <= 30; n++) {
            due("heap " + n, t.heap(n % 3, n == 1 ? 1000000 : 1000), n);
        }
        due("too many", t.heap(0, 1000), -6);
        due("-1 ahead of -6", t.heap(3, 1000), -1);
        due("count(14)", t.count(14), 30);
        due("none is cut yet", t.count(1), 0);
    }

    private static void duePlaces(IceTrade t, int room, int[] want) {
        for (int p = 0; p < want.length; p++) {
            due("place(" + room + ", " + p + ")", t.place(room, p), want[p]);
        }
    }

    private static void promise29() {
        promise = 29;
        IceTrade t = new IceTrade();
        t.room(0, 3, 3, 2, -1);
        due("no ROOM", t.pack(1), -2);
        due("an empty HEAP", t.pack(0), -7);
        for (int n = 0; n < 8; n++) {
            t.heap(n % 3, 1000 + n);
        }
        due("ROWS not LAID", t.pack(0), -7);
        t.room(0, 1, 1, 2, -1);
        due("not so many PLACES", t.pack(1), -6);
        IceTrade cube = withRoom(0, 3, 3, 2);
        cube.put(0, 4, 1);
        for (int n = 0; n < 8; n++) {
            cube.heap(n % 3, 1000 + n);
        }
        due("it holds something", cube.pack(0), -7);
        cube.clear(0, 4);
        cube.day();
        due("a cube", cube.pack(0), 24);
        duePlaces(cube, 0, new int[] {10, 11, 0, 12, 13, 0, 0, 0, 0, 14, 15, 0, 16, 17, 0, 0, 0, 0});
        due("the HEAP", cube.count(14), 0);
        due("CUT", cube.count(1), 8028);
        due("kind", cube.block(5, 0), 2);
        due("grams", cube.block(5, 1), 1005);
        due("day", cube.block(5, 4), 1);
        oneByOne();
        tooManyEver();
    }

    private static void oneByOne() {
        IceTrade wide = withRoom(0, 4, 1, 2);
        for (int n = 0; n < 4; n++) {
            wide.heap(0, 1000);
        }
        // the second row is taken only where it is alike or better: 0, 1, 2, 3 meet one each
        due("wide", wide.pack(0), 24 - 2 * 3);
        duePlaces(wide, 0, new int[] {10, 11, 12, 13, 0, 0, 0, 0});
        IceTrade nine = withRoom(0, 3, 3, 2);
        for (int n = 0; n < 9; n++) {
            nine.heap(0, 1000);
        }
        due("nine of 18", nine.pack(0), 54 - 2 * 12);
        duePlaces(nine, 0, new int[] {10, 11, 12, 13, 14, 15, 16, 17, 18, 0, 0, 0, 0, 0, 0, 0, 0, 0});
        IceTrade four = withRoom(0, 2, 1, 2);
        for (int n = 0; n < 4; n++) {
            four.heap(0, 1000);
        }
        due("a full ROOM", four.pack(0), 16);
        due("again", four.pack(0), -7);
    }

    private static void tooManyEver() {
        IceTrade t = withRoom(0, 6, 6, 5);
        addRoom(t, 0, 6, 5, 4, -1);
        addRoom(t, 0, 2, 1, 1, -1);
        for (int b = 0; b < 299; b++) {
            t.cut(b < 180 ? 0 : 1, b < 180 ? b : b - 180, 0, 1000);
        }
        t.heap(0, 1000);
        t.heap(0, 1000);
        due("BLOCKS ever", t.pack(2), -6);
        due("the HEAP stays", t.count(14), 2);
        due("BLOCKS", t.count(8), 299);
        due("-6 ahead of -7", t.pack(0), -6);
        IceTrade twice = withRoom(0, 2, 2, 2);
        addRoom(twice, 0, 3, 3, 2, -1);
        for (int n = 0; n < 8; n++) {
            twice.heap(0, 1000);
        }
        due("all of it", twice.pack(0), 24);
        for (int n = 0; n < 4; n++) {
            twice.heap(0, 1000);
        }
        due("the HEAP anew", twice.pack(1), 16);
        duePlaces(twice, 1, new int[] {18, 19, 0, 20, 21, 0, 0, 0, 0, 0, 0, 0, 0, 0, 0, 0, 0, 0});
        theLastBlock();
    }

    private static void theLastBlock() {
        IceTrade t = withRoom(0, 6, 6, 5);
        addRoom(t, 0, 6, 5, 4, -1);
        addRoom(t, 0, 1, 1, 1, -1);
        for (int b = 0; b < 299; b++) {
            t.cut(b < 180 ? 0 : 1, b < 180 ? b : b - 180, 0, 1000);
        }
        t.heap(0, 1000);
        due("the 300th", t.pack(2), 6);
        due("place(2, 0)", t.place(2, 0), 309);
    }

    private static void promise30() {
        promise = 30;
        IceTrade t = withRoom(0, 1, 1, 1);
        due("-1", t.image(-1), -1);
        due("4", t.image(4), -1);
        for (int k = 0; k < 4; k++) {
            due("image " + k, t.image(k), 0);
            t.day();
        }
        for (int k = 3; k >= 0; k--) {
            due("back " + k, t.back(k), 0);
            due("TODAY of " + k, t.count(0), k);
        }
        t.cut(0, 0, 0, 1000);
        due("kept anew", t.image(3), 0);
        t.take(0, 1);
        t.back(3);
        due("the BLOCK", t.place(0, 0), 10);
    }

    private static void promise31() {
        promise = 31;
        IceTrade t = withRoom(0, 2, 1, 2);
        due("-1", t.back(-1), -1);
        due("4", t.back(4), -1);
        due("not kept", t.back(2), -2);
        t.warm(0, bits(1f));
        t.cut(0, 0, 1, 9000);
        t.cut(0, 2, 2, 1100);
        t.image(2);
        t.day();
        t.put(0, 1, 1);
        t.day();
        addRoom(t, 5, 1, 1, 1, -1);
        t.cut(1, 0, 0, 7000);
        t.take(0, 1);
        t.warm(0, bits(2f));
        t.terms(50, 100, 900);
        t.way(3, 1);
        t.price(0, 5);
        t.heap(0, 1000);
        t.tear(0, 1, 0);
        due("back", t.back(2), 0);
        int[] want = {0, 10100, 10100, 0, 0, 0, 0, 0, 2, 2, 1, 1, 1, 0, 1, 1};
        for (int what = 0; what < want.length; what++) {
            due("count(" + what + ")", t.count(what), want[what]);
        }
        due("check()", t.check(), -7);
        due("line(0, 0)", t.line(0, 0), -2);
        due("ROOM 1", t.rooms(1, 0), -2);
        duePlaces(t, 0, new int[] {10, 0, 11, 0});
        due("not SPOILT", t.block(0, 5), -1);
        due("warm() stays", t.rooms(0, 5), 18);
        due("list() stays", t.list(0), 0);
        t.room(0, 1, 1, 1, -1);
        due("a new ROOM is new", t.place(1, 0), -3);
        due("without water", t.rooms(1, 9), 0);
        due("kept on", t.back(2), 0);
        due("ROOMS", t.count(10), 1);
        addRoom(t, 0, 2, 1, 1, -1);
        t.put(1, 0, 1);
        t.cut(1, 1, 0, 5000);
        t.day();
        due("LED", t.rooms(1, 8) > 0 ? 1 : 0, 1);
        t.back(2);
        t.room(0, 1, 1, 1, -1);
        due("nothing LED in a new ROOM", t.rooms(1, 8), 0);
    }

    private static void promise32() {
        promise = 32;
        IceTrade t = withRoom(0, 2, 1, 1);
        addRoom(t, 4, 1, 1, 1, -1);
        t.cut(1, 0, 0, 3000);
        t.cut(0, 1, 0, 5000);
        due("none", t.line(0, 0), -2);
        due("CART alone", t.day(), 540);
        due("LINES", t.count(13), 1);
        t.warm(1, bits(1f));
        t.cut(0, 0, 0, 1100);
        t.day();
        int[][] want = {{0, 1, 0, 2460, 720, 1740}, {1, 0, 1, 5000, 150, 4850}, {2, 0, 0, 1100, 150, 0}};
        for (int i = 0; i < want.length; i++) {
            for (int what = 0; what < 6; what++) {
                due("line(" + i + ", " + what + ")", t.line(i, what), want[i][what]);
            }
        }
        due("no LINE", t.line(3, 0), -2);
        due("no LINE", t.line(-1, 0), -2);
        due("what 6", t.line(0, 6), -1);
        due("-1 ahead of -2", t.line(9, -1), -1);
        IceTrade pit = withRoom(5, 1, 1, 1);
        pit.warm(0, bits(-30f));
        pit.terms(40, 1, 1000);
        pit.cut(0, 0, 0, 1001);
        pit.day();
        due("a LOSS of 1", pit.line(0, 4), 1);
        due("LEAST is left", pit.line(0, 5), 1000);
        pit.day();
        due("GONE", pit.line(0, 5), 0);
    }

    private static void promise33() {
        promise = 33;
        IceTrade t = withRoom(0, 2, 1, 1);
        t.warm(0, bits(1f));
        t.cut(0, 0, 0, 3000);
        due("no LINE", t.alter(0, 0, 1), -2);
        t.day();
        due("what -1", t.alter(0, -1, 1), -1);
        due("what 6 of none", t.alter(9, 6, 1), -1);
        due("mask 0 of none", t.alter(9, 0, 0), -1);
        due("no LINE", t.alter(1, 0, 1), -2);
        due("no LINE", t.alter(-1, 0, 1), -2);
        for (int what = 0; what < 6; what++) {
            int was = t.line(0, what);
            due("altered", t.alter(0, what, 0x80000005), 0);
            due("by its bits", t.line(0, what), was ^ 0x80000005);
        }
        due("the BLOCK itself is not", t.block(0, 1), 2820);
    }

    private static void promise34() {
        promise = 34;
        IceTrade t = withRoom(0, 3, 1, 1);
        due("no BOOK", t.check(), -7);
        t.day();
        due("a BOOK without LINES", t.check(), -1);
        t.warm(0, bits(1f));
        for (int p = 0; p < 3; p++) {
            t.cut(0, p, 0, 3000);
        }
        t.day();
        due("right", t.check(), -1);
        for (int what = 0; what < 6; what++) {
            t.alter(1, what, 1 << what);
            due("wrong in " + what, t.check(), 1);
            t.alter(1, what, 1 << what);
            due("right again", t.check(), -1);
        }
        t.alter(2, 5, -1);
        due("the first", t.check(), 2);
        t.alter(0, 0, 8);
        due("the first", t.check(), 0);
        t.terms(0, 0, 1);
        t.warm(0, bits(9f));
        t.alter(0, 0, 8);
        t.alter(2, 5, -1);
        t.take(0, 3);
        due("the day as it was", t.check(), -1);
    }

    private static void promise35() {
        promise = 35;
        IceTrade t = new IceTrade();
        due("ahead of any", t.status(), 0);
        t.lay(0, 0, 0);
        due("-2", t.status(), -2);
        t.rooms(0, 99);
        t.place(0, 0);
        t.block(0, 99);
        t.tenths(-1);
        t.count(99);
        t.next(0);
        t.comes(0, -1);
        t.sent(9);
        t.list(0);
        t.foretold(0, 0);
        t.last();
        t.line(0, 9);
        t.check();
        due("asking calls leave it", t.status(), -2);
        due("status() too", t.status(), -2);
        t.home();
        due("home() can't be REFUSED", t.status(), -2);
        t.room(0, 1, 1, 2, -1);
        due("not REFUSED", t.status(), 0);
        dueOfStatus(t);
        refusedChangesNothing();
    }

    private static void dueOfStatus(IceTrade t) {
        due("status of " + t.cut(0, 0, 0, 1000), t.status(), -3);
        due("status of " + t.lay(0, 0, 0), t.status(), 0);
        due("status of " + t.tear(0, 1, 0), t.status(), -3);
        due("status of " + t.lay(0, 1, 0), t.status(), 0);
        due("status of " + t.put(0, 1, 0), t.status(), -5);
        due("status of " + t.clear(0, 0), t.status(), -7);
        due("status of " + t.cut(0, 0, 0, 1000), t.status(), 0);
        due("status of " + t.cut(0, 0, 0, 1000), t.status(), -4);
        due("status of " + t.warm(0, 0), t.status(), 0);
        due("status of " + t.warm(0, bits(99f)), t.status(), -1);
        due("status of " + t.terms(1, 1, 1), t.status(), 0);
        due("status of " + t.terms(1, 1, 0), t.status(), -1);
        due("status of " + t.day(), t.status(), 0);
        due("status of " + t.take(0, 2), t.status(), -6);
        due("status of " + t.way(3, 1), t.status(), 0);
        due("status of " + t.way(0, 1), t.status(), -1);
        due("status of " + t.price(0, 1), t.status(), 0);
        due("status of " + t.send(0, 1000000), t.status(), -6);
        due("status of " + t.foretell(1, 0), t.status(), 0);
        due("status of " + t.foretell(0, 0), t.status(), -1);
        due("status of " + t.heap(0, 1000), t.status(), 0);
        due("status of " + t.pack(0), t.status(), -7);
        due("status of " + t.image(0), t.status(), 0);
        due("status of " + t.back(1), t.status(), -2);
        due("status of " + t.back(0), t.status(), 0);
        due("status of " + t.alter(0, 0, 0), t.status(), -1);
        due("status of " + t.take(0, 1), t.status(), 0);
    }

    private static void refusedChangesNothing() {
        IceTrade t = withRoom(3, 2, 1, 1);
        t.cut(0, 0, 0, 5000);
        t.put(0, 0, 0);
        t.put(0, 1, 0);
        t.cut(0, 0, 1, 7000);
        t.take(0, 2);
        t.send(0, 5001);
        t.tear(0, 0, 0);
        int[] want = {0, 5000, 5000, 0, 0, 0, 0, 0, 1, 1, 1, 0, 0, 0, 0, 0};
        for (int what = 0; what < want.length; what++) {
            due("count(" + what + ")", t.count(what), want[what]);
        }
        duePlaces(t, 0, new int[] {10, 0});
    }
}
