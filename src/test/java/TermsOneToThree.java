/** The boundaries that Terms I to III name: a test for each sentence, at the boundary and on either side of it. */
public final class TermsOneToThree extends Bounds {
    public static void main(String[] args) {
        whatItIs();
        termOne();
        termTwo();
        termThree();
        end();
    }

    // What it is

    private static void whatItIs() {
        says("An object is used for at most 512 calls after it has been made");
        IceTrade t = new IceTrade();
        t.room(ROOM, 1, 1, 1, -1);
        t.lay(0, 0, 0);
        for (int call = 3; call < 511; call += 2) {
            due("call " + call, t.cut(0, 0, PLAIN, 1000), (call - 3) / 2);
            due("call " + (call + 1), t.take(0, 1), 1000);
        }
        due("call 511", t.count(8), 254);
        due("call 512", t.count(3), 254000);
    }

    // Term I

    private static void termOne() {
        days();
        outside();
        notRead();
        tenths();
        kindsOfRooms();
        warmthOfARoom();
        warmthOfACellar();
        warmthOfAnInnerOne();
        warmthOfBoatAndCart();
        warmthWithSalt();
    }

    private static void days() {
        says("DAYS 0 .. 199; TODAY is 0 at first.");
        IceTrade t = new IceTrade();
        due("TODAY", t.count(0), 0);
        due("warm(-1)", t.warm(-1, 0), -1);
        due("warm(0)", t.warm(0, bits(1f)), 0);
        due("warm(199)", t.warm(199, bits(2f)), 0);
        due("warm(200)", t.warm(200, 0), -1);
        due("warm(the least)", t.warm(Integer.MIN_VALUE, 0), -1);
        due("warm(the most)", t.warm(Integer.MAX_VALUE, 0), -1);
        due("tenths(-1)", t.tenths(-1), -1000);
        due("tenths(0)", t.tenths(0), 10);
        due("tenths(198)", t.tenths(198), 10);
        due("tenths(199)", t.tenths(199), 20);
        due("tenths(200)", t.tenths(200), -1000);
        goTo(t, 198);
        due("the last day()", t.day(), 0);
        due("TODAY", t.count(0), 199);
        due("one more", t.day(), -7);
        due("TODAY", t.count(0), 199);
    }

    private static void outside() {
        says("OUTSIDE of a day is a float -60 .. 60, as told by warm()");
        IceTrade t = new IceTrade();
        int sixty = bits(60f);
        int lowSixty = bits(-60f);
        due("60", t.warm(0, sixty), 0);
        due("TENTHS", t.tenths(0), 600);
        due("just above 60", t.warm(0, sixty + 1), -1);
        due("TENTHS stay", t.tenths(0), 600);
        due("just below 60", t.warm(0, sixty - 1), 0);
        due("TENTHS", t.tenths(0), 599);
        due("-60", t.warm(0, lowSixty), 0);
        due("TENTHS", t.tenths(0), -600);
        due("just below -60", t.warm(0, lowSixty + 1), -1);
        due("TENTHS stay", t.tenths(0), -600);
        due("just above -60", t.warm(0, lowSixty - 1), 0);
        due("TENTHS", t.tenths(0), -599);
        due("the greatest float", t.warm(0, 0x7f7fffff), -1);
        due("the least float", t.warm(0, 0xff7fffff), -1);
        due("infinite", t.warm(0, 0x7f800000), -1);
        due("infinite below 0", t.warm(0, 0xff800000), -1);
        due("TENTHS stay", t.tenths(0), -599);
    }

    private static void notRead() {
        says("of one that isn't told, or told as no number (not read), it is that of the day ahead of it (0.0 of day 0)");
        IceTrade t = new IceTrade();
        due("none is told, day 0", t.tenths(0), 0);
        due("none is told, day 199", t.tenths(199), 0);
        tell(t, 3, 50);
        due("the day ahead", t.tenths(2), 0);
        due("the day behind", t.tenths(4), 50);
        due("the last day", t.tenths(199), 50);
        tell(t, 4, 70);
        tell(t, 6, -20);
        due("between two", t.tenths(5), 70);
        int[] noNumbers = {0x7f800001, NOT_A_NUMBER, 0x7fffffff, 0xff800001, 0xffc00000, 0xffffffff};
        for (int none : noNumbers) {
            due("told as no number", t.warm(4, none), 0);
            due("then as the day ahead", t.tenths(4), 50);
            due("and the day behind it", t.tenths(5), 50);
            tell(t, 4, 70);
        }
        due("the last one too", t.warm(199, NOT_A_NUMBER), 0);
        due("day 199", t.tenths(199), -20);
        tell(t, 0, 90);
        due("as day 0", t.tenths(2), 90);
        due("day 0 not read", t.warm(0, NOT_A_NUMBER), 0);
        due("day 0", t.tenths(0), 0);
        due("day 2", t.tenths(2), 0);
        due("day 3", t.tenths(3), 50);
    }

    private static void tenths() {
        says("TENTHS: OUTSIDE times 10.0 (as floats), cut to a whole number.");
        int[][] told = {
            {bits(0.1f), 1}, {bits(0.1f) - 1, 0}, {bits(-0.1f), -1}, {bits(-0.1f) - 1, 0},
            {bits(0.99f), 9}, {bits(-0.99f), -9}, {bits(1.19f), 11}, {bits(-1.19f), -11},
            {0, 0}, {0x80000000, 0}, {1, 0}, {0x80000001, 0}, {0x007fffff, 0}, {0x00800000, 0},
            // below seven tenths, but the product of the floats is 7
            {bits(0.7f), 7}, {bits(-0.7f), -7}, {bits(0.7f) - 1, 6},
            {bits(59.9f), 599}, {bits(59.95f), 599}, {bits(-59.95f), -599},
        };
        IceTrade t = new IceTrade();
        for (int[] each : told) {
            t.warm(0, each[0]);
            due("of the bits " + Integer.toHexString(each[0]), t.tenths(0), each[1]);
        }
    }

    private static void kindsOfRooms() {
        says("KINDS of ROOMS: 0 a ROOM, 1 a CELLAR (earth around), 2 an INNER one (in another ROOM), 3 a BOAT, 4 a CART,"
            + " 5 a PIT (a CELLAR with water).");
        IceTrade t = new IceTrade();
        due("kind -1", t.room(-1, 1, 1, 1, -1), -1);
        int number = 0;
        for (int kind = 0; kind <= 5; kind++) {
            due("kind " + kind, t.room(kind, 1, 1, 1, kind == INNER ? 0 : -1), number);
            due("its kind", t.rooms(number, 0), kind);
            number++;
        }
        due("kind 6", t.room(6, 1, 1, 1, -1), -1);
    }

    private static void warmthOfARoom() {
        says("WARMTH of one on a day, in TENTHS: of a ROOM the day's");
        IceTrade t = with(ROOM, 1, 1, 1);
        int[] outside = {-600, -1, 0, 1, 600};
        for (int tenths : outside) {
            tell(t, 0, tenths);
            due("at " + tenths, t.rooms(0, 5), tenths);
        }
        tell(t, 1, 25);
        t.day();
        due("on the next day", t.rooms(0, 5), 25);
    }

    private static void warmthOfACellar() {
        says("of a CELLAR and a PIT half of the day's and 80 together, cut");
        IceTrade t = with(CELLAR, 1, 1, 1);
        addRoom(t, PIT, 1, 1, 1, -1);
        int[][] halves = {
            {-600, -260}, {-83, -1}, {-82, -1}, {-81, 0}, {-80, 0}, {-79, 0}, {-78, 1},
            {-1, 39}, {0, 40}, {1, 40}, {2, 41}, {599, 339}, {600, 340},
        };
        for (int[] half : halves) {
            tell(t, 0, half[0]);
            due("CELLAR at " + half[0], t.rooms(0, 5), half[1]);
            due("PIT at " + half[0], t.rooms(1, 5), half[1]);
        }
    }

    private static void warmthOfAnInnerOne() {
        says("of an INNER one the WARMTH of that in which it is");
        int[][] around = {{ROOM, -100}, {CELLAR, -10}, {BOAT, -90}, {CART, -70}, {PIT, -10}};
        for (int[] outer : around) {
            IceTrade t = new IceTrade();
            tell(t, 0, -100);
            t.room(outer[0], 1, 1, 1, -1);
            for (int depth = 1; depth < 8; depth++) {
                t.room(INNER, 1, 1, 1, depth - 1);
                due("in kind " + outer[0] + ", " + depth + " deep", t.rooms(depth, 5), outer[1]);
            }
        }
        IceTrade two = with(CART, 1, 1, 1);
        addRoom(two, BOAT, 1, 1, 1, -1);
        two.room(INNER, 1, 1, 1, 0);
        two.room(INNER, 1, 1, 1, 1);
        due("in ROOM 0", two.rooms(2, 5), 30);
        due("in ROOM 1", two.rooms(3, 5), 10);
    }

    private static void warmthOfBoatAndCart() {
        says("of a BOAT 10 more, of a CART 30 more than the day's");
        IceTrade t = with(BOAT, 1, 1, 1);
        addRoom(t, CART, 1, 1, 1, -1);
        int[] outside = {-600, -31, -30, -10, -9, 0, 600};
        for (int tenths : outside) {
            tell(t, 0, tenths);
            due("BOAT at " + tenths, t.rooms(0, 5), tenths + 10);
            due("CART at " + tenths, t.rooms(1, 5), tenths + 30);
        }
    }

    private static void warmthWithSalt() {
        says("less 2 for each SALT BLOCK that lies in it (itself).");
        IceTrade t = with(CELLAR, 3, 1, 1);
        addRoom(t, INNER, 3, 1, 1, 0);
        addRoom(t, INNER, 1, 1, 1, 1);
        t.cut(0, 0, PLAIN, 9000);
        t.cut(1, 0, CLEAR, 9000);
        due("no SALT", t.rooms(0, 5), 40);
        t.cut(1, 1, SALT, 9000);
        due("not that of the one within", t.rooms(0, 5), 40);
        due("itself", t.rooms(1, 5), 38);
        due("the one within it", t.rooms(2, 5), 38);
        t.cut(1, 2, SALT, 9000);
        due("two", t.rooms(1, 5), 36);
        t.cut(0, 1, SALT, 9000);
        due("the outer one", t.rooms(0, 5), 38);
        due("through the outer one", t.rooms(1, 5), 34);
        t.cut(2, 0, SALT, 1000);
        due("three deep", t.rooms(2, 5), 32);
        t.take(1, 1);
        due("a SALT one is TAKEN", t.block(3, 2), -1);
        due("then it is warmer", t.rooms(1, 5), 36);
        t.day();
        due("GONE", t.block(5, 2), -1);
        due("then as that around it", t.rooms(2, 5), t.rooms(1, 5));
    }

    // Term II

    private static void termTwo() {
        roomsAndPlaces();
        placesInTheirOrder();
        rowsLaid();
        rowsTorn();
        whatAPlaceHolds();
        blocksNumbered();
        whatIsPutNeeds();
        whatLiesOnOneThatIsGone();
        noStraw();
    }

    private static void roomsAndPlaces() {
        says("ROOMS 0 .. 7 have PLACES: 1 .. 6 in a row (x), 1 .. 6 rows (y) in a layer, 1 .. 5 layers (z) from below");
        for (int width = 0; width <= 7; width++) {
            for (int rows = 0; rows <= 7; rows++) {
                for (int layers = 0; layers <= 6; layers++) {
                    boolean can = width >= 1 && width <= 6 && rows >= 1 && rows <= 6 && layers >= 1 && layers <= 5;
                    IceTrade t = new IceTrade();
                    String shape = width + " x " + rows + " x " + layers;
                    due(shape, t.room(ROOM, width, rows, layers, -1), can ? 0 : -1);
                    int places = width * rows * layers;
                    due("the last PLACE of " + shape, t.place(0, places - 1), can ? -3 : -2);
                    due("one more of " + shape, t.place(0, places), can ? -1 : -2);
                    due("PLACE -1 of " + shape, t.place(0, -1), can ? -1 : -2);
                }
            }
        }
        IceTrade eight = new IceTrade();
        for (int number = 0; number < 8; number++) {
            due("not yet", eight.rooms(number, 0), -2);
            due("ROOM " + number, eight.room(ROOM, 1, 1, 1, -1), number);
        }
        due("ROOM 8", eight.room(ROOM, 1, 1, 1, -1), -6);
        due("there is none", eight.rooms(8, 0), -2);
        due("the last one is", eight.rooms(7, 0), 0);
        due("nor ROOM -1", eight.rooms(-1, 0), -2);
    }

    private static void placesInTheirOrder() {
        says("PLACE x + width (y + rows z).");
        int width = 3;
        int rows = 4;
        int layers = 2;
        for (int z = 0; z < layers; z++) {
            for (int y = 0; y < rows; y++) {
                IceTrade t = new IceTrade();
                t.room(ROOM, width, rows, layers, -1);
                for (int below = 0; below <= z; below++) {
                    t.lay(0, below, y);
                }
                for (int p = 0; p < width * rows * layers; p++) {
                    boolean laid = p / width % rows == y && p / width / rows <= z;
                    due("ROW " + y + " of layer " + z + ", PLACE " + p, t.place(0, p), laid ? 0 : -3);
                }
            }
        }
        IceTrade column = new IceTrade();
        column.room(PIT, 1, 1, 5, -1);
        for (int z = 0; z < 5; z++) {
            due("layer " + z + " of a column", column.place(0, z), -3);
            column.lay(0, z, 0);
            due("LAID", column.place(0, z), 0);
            column.cut(0, z, PLAIN, 9000);
            due("in water", column.block(z, 8) - column.block(z, 6) * 120, z == 0 ? 200 : 0);
        }
    }

    private static void rowsLaid() {
        says("ROWS are LAID one by one, a row of a layer above 0 if the one beneath it is");
        IceTrade t = new IceTrade();
        t.room(ROOM, 1, 2, 5, -1);
        due("layer 1 without layer 0", t.lay(0, 1, 0), -7);
        due("layer 0", t.lay(0, 0, 0), 0);
        due("the other row is not", t.place(0, 1), -3);
        due("the other row's layer 1", t.lay(0, 1, 1), -7);
        due("layer 2 without layer 1", t.lay(0, 2, 0), -7);
        for (int z = 1; z < 5; z++) {
            due("layer " + z, t.lay(0, z, 0), 0);
            due("again", t.lay(0, z, 0), -7);
            due("of the other row", t.lay(0, z, 1), -7);
        }
        due("layer 5", t.lay(0, 5, 0), -1);
        due("the other row at last", t.lay(0, 0, 1), 0);
        due("row 2", t.lay(0, 0, 2), -1);
    }

    private static void rowsTorn() {
        says("TORN, if they hold nothing and none above is LAID.");
        for (int x = 0; x < 3; x++) {
            for (int what = 0; what < 3; what++) {
                IceTrade t = with(ROOM, 3, 3, 1);
                int place = 3 + x;
                if (what == 2) {
                    t.cut(0, place, PLAIN, 1000);
                } else {
                    t.put(0, place, what);
                }
                due("what " + what + " at " + place, t.tear(0, 0, 1), -7);
                due("the row before it", t.tear(0, 0, 0), 0);
                due("the row behind it", t.tear(0, 0, 2), 0);
                due(what == 2 ? "take" : "clear", what == 2 ? t.take(0, 1) : t.clear(0, place), what == 2 ? 1000 : 0);
                due("then", t.tear(0, 0, 1), 0);
            }
        }
        IceTrade t = with(ROOM, 1, 2, 3);
        due("one above", t.tear(0, 1, 0), -7);
        due("the lowest", t.tear(0, 0, 0), -7);
        due("the highest", t.tear(0, 2, 0), 0);
        due("the middle one", t.tear(0, 1, 0), 0);
        due("the lowest", t.tear(0, 0, 0), 0);
        due("torn already", t.tear(0, 0, 0), -3);
        due("laid again", t.lay(0, 0, 0), 0);
        due("the other is LAID yet", t.lay(0, 0, 1), -7);
    }

    private static void whatAPlaceHolds() {
        says("A PLACE in a ROW that is LAID holds a BLOCK, STRAW, a DRAIN, or nothing.");
        IceTrade t = new IceTrade();
        t.room(ROOM, 4, 2, 1, -1);
        t.lay(0, 0, 1);
        t.put(0, 5, STRAW);
        t.put(0, 6, DRAIN);
        t.cut(0, 7, PLAIN, 1000);
        int[] held = {-3, -3, -3, -3, 0, 1, 2, 10};
        for (int p = 0; p < held.length; p++) {
            due("PLACE " + p, t.place(0, p), held[p]);
        }
    }

    private static void blocksNumbered() {
        says("BLOCKS are numbered from 0 on as they are cut, 300 at most: 0 plain, 1 CLEAR, 2 SALT.");
        IceTrade t = with(ROOM, 6, 6, 5);
        addRoom(t, ROOM, 6, 6, 4, -1);
        for (int b = 0; b < 300; b++) {
            due("BLOCK " + b, t.cut(b / 180, b % 180, b % 3, 1000), b);
        }
        due("the 301st", t.cut(1, 120, PLAIN, 1000), -6);
        due("BLOCKS ever", t.count(8), 300);
        due("block(299, 0)", t.block(299, 0), 299 % 3);
        due("block(300, 0)", t.block(300, 0), -2);
        t.take(0, 180);
        due("BLOCKS ever", t.count(8), 300);
        due("none where one was", t.cut(0, 0, PLAIN, 1000), -6);
        IceTrade kinds = with(ROOM, 3, 1, 1);
        due("kind -1", kinds.cut(0, 0, -1, 1000), -1);
        for (int kind = 0; kind < 3; kind++) {
            due("kind " + kind, kinds.cut(0, kind, kind, 1000), kind);
        }
        kinds.take(0, 1);
        due("kind 3", kinds.cut(0, 0, 3, 1000), -1);
        due("a number is not used again", kinds.cut(0, 0, PLAIN, 1000), 3);
    }

    private static void whatIsPutNeeds() {
        says("What is put needs its ROW LAID, its PLACE free, and the floor (layer 0), a BLOCK or STRAW right beneath.");
        for (int what = 0; what < 3; what++) {
            IceTrade t = new IceTrade();
            t.room(ROOM, 3, 1, 3, -1);
            due("ROW not LAID", putOrCut(t, 0, what), -3);
            t.lay(0, 0, 0);
            due("on the floor", Math.min(0, putOrCut(t, 0, what)), 0);
            due("not free", putOrCut(t, 0, what), -4);
            due("the ROW above", putOrCut(t, 3, what), -3);
            t.lay(0, 1, 0);
            due("above layer 0, nothing beneath", putOrCut(t, 5, what), -5);
            t.put(0, 2, DRAIN);
            due("a DRAIN beneath", putOrCut(t, 5, what), -5);
            t.put(0, 1, STRAW);
            due("STRAW beneath", Math.min(0, putOrCut(t, 4, what)), 0);
            t.clear(0, 2);
            t.cut(0, 2, SALT, 1000);
            due("a BLOCK beneath", Math.min(0, putOrCut(t, 5, what)), 0);
            t.lay(0, 2, 0);
            due("two beneath, not right beneath", putOrCut(t, 6, what), -5);
        }
    }

    private static int putOrCut(IceTrade t, int place, int what) {
        return what == 2 ? t.cut(0, place, PLAIN, 1000) : t.put(0, place, what);
    }

    private static void whatLiesOnOneThatIsGone() {
        says("(What lies on one that is gone or taken stays.)");
        IceTrade t = with(ROOM, 3, 1, 3);
        tell(t, 0, 1);
        t.cut(0, 0, PLAIN, 1000);
        t.cut(0, 3, PLAIN, 50000);
        t.cut(0, 1, PLAIN, 1000);
        t.put(0, 4, STRAW);
        t.cut(0, 2, PLAIN, 1000);
        t.put(0, 5, DRAIN);
        t.day();
        int[] held = {0, 0, 0, 11, 1, 2};
        for (int p = 0; p < held.length; p++) {
            due("one is GONE, PLACE " + p, t.place(0, p), held[p]);
        }
        due("one can lie on it yet", t.cut(0, 6, PLAIN, 1000), 4);
        due("its sides", t.block(1, 6), 4);
        due("what is cleared above nothing", t.clear(0, 4), 0);
        due("can't be put again", t.put(0, 4, STRAW), -5);
        due("what comes beneath", t.put(0, 0, STRAW), 0);
        due("is shut in", t.clear(0, 0), -7);
        IceTrade taken = with(ROOM, 2, 1, 2);
        taken.cut(0, 0, PLAIN, 1000);
        taken.put(0, 2, STRAW);
        taken.cut(0, 1, PLAIN, 1000);
        taken.put(0, 3, DRAIN);
        due("both are FREE", taken.take(0, 2), 2000);
        int[] left = {0, 0, 1, 2};
        for (int p = 0; p < left.length; p++) {
            due("one is TAKEN, PLACE " + p, taken.place(0, p), left[p]);
        }
    }

    private static void noStraw() {
        says("No STRAW is put on a CART, nor on BOATS of one layer.");
        for (int kind = 0; kind <= 5; kind++) {
            for (int layers = 1; layers <= 5; layers++) {
                IceTrade t = new IceTrade();
                t.room(ROOM, 1, 1, 1, -1);
                addRoom(t, kind, 2, 1, layers, kind == INNER ? 0 : -1);
                boolean not = kind == CART || kind == BOAT && layers == 1;
                String where = "kind " + kind + " of " + layers;
                due("STRAW, " + where, t.put(1, 0, STRAW), not ? -7 : 0);
                due("a DRAIN, " + where, t.put(1, 1, DRAIN), 0);
                due("PLACE, " + where, t.place(1, 0), not ? 0 : 1);
            }
        }
        IceTrade within = with(CART, 1, 1, 1);
        addRoom(within, INNER, 1, 1, 1, 0);
        due("an INNER one in a CART is none", within.put(1, 0, STRAW), 0);
    }

    // Term III

    private static void termThree() {
        sixSides();
        noSideBeyondTheRow();
        inAir();
        rateAndWarmth();
        partCut();
        standsInWater();
        atMostWhatItWeighs();
        byHowTheyLay();
        belowLeast();
        ledOff();
        spoilt();
        termsAtFirst();
    }

    /** What lies at the sides of PLACE 13, the middle one of 3 x 3 x 3; beneath it there must be something. */
    private static void sixSides() {
        says("SIDES of a BLOCK, six: the PLACES left and right (x), before and behind (y), beneath and above (z): shut"
            + " where a BLOCK lies, in STRAW where STRAW does, else in air");
        IceTrade t = with(ROOM, 3, 3, 3);
        t.put(0, 4, STRAW);
        t.cut(0, 13, PLAIN, 9000);
        due("on STRAW alone: in air", t.block(0, 6), 5);
        due("in STRAW", t.block(0, 7), 1);
        int[] others = {12, 14, 10, 16};
        for (int i = 0; i < others.length; i++) {
            t.cut(0, others[i] - 9, PLAIN, 1000);
            due("diagonal, beneath " + others[i], t.block(0, 6), 5 - i);
            t.put(0, others[i], STRAW);
            due("STRAW at " + others[i], t.block(0, 6), 4 - i);
            due("in STRAW", t.block(0, 7), 2 + i);
        }
        t.put(0, 22, STRAW);
        due("all in STRAW: in air", t.block(0, 6), 0);
        due("in STRAW", t.block(0, 7), 6);
        t.clear(0, 22);
        t.cut(0, 22, PLAIN, 1000);
        due("a BLOCK above: in air", t.block(0, 6), 0);
        due("in STRAW", t.block(0, 7), 5);
        for (int i = 0; i < others.length; i++) {
            t.clear(0, others[i]);
            due("nothing at " + others[i], t.block(0, 6), 1);
            t.cut(0, others[i], PLAIN, 1000);
            due("a BLOCK at " + others[i], t.block(0, 6), 0);
            due("in STRAW", t.block(0, 7), 4 - i);
        }
    }

    /** PLACES whose numbers are neighbours, but which lie in other rows or layers. */
    private static void noSideBeyondTheRow() {
        says("(nothing, a DRAIN, a ROW that is not LAID, beyond the ROOM)");
        int[][] pairs = {{2, 3, 0}, {5, 6, 0}, {6, 3, 1}, {8, 9, 0}, {6, 9, 0}, {0, 3, 1}, {0, 1, 1}, {3, 12, 1}, {0, 9, 1},
            {0, 4, 0}, {1, 9, 0}, {0, 2, 0}, {0, 6, 0}};
        for (int[] pair : pairs) {
            IceTrade t = with(ROOM, 3, 3, 2);
            for (int p = 0; p < 2; p++) {
                if (pair[p] >= 9 && t.place(0, pair[p] - 9) == 0) {
                    t.put(0, pair[p] - 9, STRAW);
                }
                t.cut(0, pair[p], PLAIN, 1000);
            }
            int straws = t.block(0, 7) + t.block(1, 7);
            int air = t.block(0, 6) + t.block(1, 6);
            due("between " + pair[0] + " and " + pair[1], (12 - straws - air) / 2, pair[2]);
        }
        IceTrade line = with(ROOM, 1, 1, 5);
        for (int p = 0; p < 5; p++) {
            line.cut(0, p, PLAIN, 1000);
            due("a column of " + (p + 1), line.rooms(0, 10), 4 * (p + 1) + 2);
        }
        IceTrade full = with(ROOM, 6, 6, 5);
        for (int p = 0; p < 180; p++) {
            full.cut(0, p, PLAIN, 1000);
        }
        due("a full ROOM", full.rooms(0, 10), 2 * (36 + 30 + 30));
        due("a corner", full.block(0, 6), 3);
        due("an edge", full.block(1, 6), 2);
        due("a face", full.block(7, 6), 1);
        due("within", full.block(36 + 7, 6), 0);
        due("the last corner", full.block(179, 6), 3);
    }

    private static void inAir() {
        says("else in air (nothing, a DRAIN, a ROW that is not LAID, beyond the ROOM)");
        IceTrade t = new IceTrade();
        t.room(ROOM, 2, 2, 2, -1);
        t.lay(0, 0, 0);
        t.cut(0, 0, PLAIN, 9000);
        due("beyond and not LAID", t.block(0, 6), 6);
        t.lay(0, 0, 1);
        t.lay(0, 1, 0);
        due("LAID, nothing there", t.block(0, 6), 6);
        t.put(0, 1, DRAIN);
        t.put(0, 2, DRAIN);
        t.put(0, 4, DRAIN);
        due("DRAINS", t.block(0, 6), 6);
        due("none in STRAW", t.block(0, 7), 0);
        t.clear(0, 1);
        t.put(0, 1, STRAW);
        due("STRAW", t.block(0, 6), 5);
    }

    private static void rateAndWarmth() {
        says("RATE is 3, of SALT 5; GRAMS are RATE times the WARMTH, if that is above 0, else 0");
        int[] outside = {-600, -2, -1, 0, 1, 2, 600};
        for (int tenths : outside) {
            for (int kind = 0; kind < 3; kind++) {
                IceTrade t = with(ROOM, 1, 1, 1);
                tell(t, 0, tenths);
                t.cut(0, 0, kind, 1000000);
                int warmth = kind == SALT ? tenths - 2 : tenths;
                int rate = kind == SALT ? 5 : 3;
                due("kind " + kind + " at " + tenths, t.block(0, 8), 6 * rate * Math.max(0, warmth));
            }
        }
        IceTrade salt = with(ROOM, 1, 1, 1);
        salt.cut(0, 0, SALT, 9000);
        tell(salt, 0, 3);
        due("SALT cools itself to 1", salt.block(0, 8), 30);
        tell(salt, 0, 2);
        due("to 0", salt.block(0, 8), 0);
        tell(salt, 0, 1);
        due("below 0", salt.block(0, 8), 0);
    }

    private static void partCut() {
        says("its sides in air times GRAMS, and its sides in STRAW times (GRAMS times PART / 100, cut)");
        IceTrade t = with(ROOM, 3, 1, 1);
        t.put(0, 0, STRAW);
        t.put(0, 2, STRAW);
        t.cut(0, 1, PLAIN, 900000);
        tell(t, 0, 11);
        due("33 times 40 / 100 is 13", t.block(0, 8), 4 * 33 + 2 * 13);
        int[][] parts = {{0, 0}, {1, 0}, {3, 0}, {4, 1}, {6, 1}, {7, 2}, {50, 16}, {99, 32}, {100, 33}};
        for (int[] part : parts) {
            t.terms(part[0], 0, 1);
            due("PART " + part[0], t.block(0, 8), 4 * 33 + 2 * part[1]);
        }
        tell(t, 0, 0);
        due("without WARMTH", t.block(0, 8), 0);
        tell(t, 0, 600);
        due("the most", t.block(0, 8), 6 * 1800);
    }

    private static void standsInWater() {
        says("and WET if it stands in water: in a PIT, layer 0, with no DRAIN in that layer");
        for (int kind = 0; kind <= 5; kind++) {
            IceTrade t = new IceTrade();
            tell(t, 0, -600);
            t.room(PIT, 1, 1, 1, -1);
            addRoom(t, kind, 2, 2, 2, kind == INNER ? 0 : -1);
            t.cut(1, 0, PLAIN, 9000);
            t.cut(1, 4, PLAIN, 9000);
            due("layer 0 of kind " + kind, t.block(0, 8), kind == PIT ? 200 : 0);
            due("layer 1 of kind " + kind, t.block(1, 8), 0);
        }
        IceTrade t = with(PIT, 2, 2, 2);
        tell(t, 0, -600);
        t.cut(0, 0, PLAIN, 9000);
        t.put(0, 4, DRAIN);
        due("a DRAIN in layer 1", t.block(0, 8), 200);
        for (int p = 1; p < 4; p++) {
            t.put(0, p, DRAIN);
            due("a DRAIN at " + p, t.block(0, 8), 0);
            t.clear(0, p);
            due("cleared", t.block(0, 8), 200);
            t.put(0, p, STRAW);
            due("STRAW at " + p, t.block(0, 8), 200);
            t.clear(0, p);
        }
        IceTrade wide = with(PIT, 6, 6, 2);
        tell(wide, 0, -600);
        wide.cut(0, 0, PLAIN, 9000);
        wide.put(0, 36, DRAIN);
        due("a DRAIN in the first PLACE of layer 1", wide.block(0, 8), 200);
        wide.put(0, 35, DRAIN);
        due("a DRAIN in the last PLACE of layer 0", wide.block(0, 8), 0);
        t.terms(40, 0, 1000);
        due("WET 0", t.block(0, 8), 0);
        tell(t, 0, 0);
        t.terms(40, 10000, 1);
        due("beside the sides", t.block(0, 8), Math.min(9000, 6 * 120 + 10000));
        addRoom(t, PIT, 1, 1, 1, -1);
        t.put(1, 0, DRAIN);
        due("a DRAIN of another ROOM", t.block(0, 8), 9000);
    }

    private static void atMostWhatItWeighs() {
        says("at most what it weighs.");
        IceTrade t = with(ROOM, 1, 1, 1);
        t.cut(0, 0, PLAIN, 1008);
        tell(t, 0, 55);
        due("990 of 1008", t.block(0, 8), 990);
        tell(t, 0, 56);
        due("just all of it", t.block(0, 8), 1008);
        tell(t, 0, 57);
        due("no more", t.block(0, 8), 1008);
        due("MELTED", t.day(), 1008);
        due("nothing is left to be GONE", t.count(5), 0);
        due("it is out of the ROOM", t.block(0, 2), -1);
        due("the LINE", t.line(0, 4), 1008);
        due("what was left", t.line(0, 5), 0);
    }

    private static void byHowTheyLay() {
        says("A DAY: each BLOCK that lies in a ROOM loses its LOSS of TODAY, all by how they lay at its beginning");
        IceTrade t = with(ROOM, 3, 1, 1);
        tell(t, 0, 10);
        t.cut(0, 0, PLAIN, 1000);
        t.cut(0, 1, PLAIN, 5000);
        t.cut(0, 2, SALT, 1000);
        // WARMTH 8: the SALT one cools all, though it is GONE by that day
        int[] losses = {5 * 24, 4 * 24, 5 * 40};
        for (int b = 0; b < 3; b++) {
            due("LOSS of " + b, t.block(b, 8), losses[b]);
        }
        due("MELTED", t.day(), losses[0] + losses[1] + losses[2]);
        due("both are GONE", t.rooms(0, 6), 1);
        due("the middle one lost by two sides shut", t.block(1, 1), 5000 - losses[1]);
        due("now by six, without SALT", t.block(1, 8), 6 * 30);
        t.take(0, 1);
        due("a TAKEN one loses nothing", t.day(), 0);
        due("its grams", t.block(1, 1), 5000 - losses[1]);
    }

    private static void belowLeast() {
        says("what is below LEAST then is GONE (what is left of it counts so; its PLACE holds nothing); TODAY is one more.");
        IceTrade t = with(ROOM, 6, 1, 1);
        tell(t, 0, 10);
        int[] weights = {1179, 1180, 1181};
        for (int i = 0; i < 3; i++) {
            t.cut(0, 2 * i, PLAIN, weights[i]);
        }
        due("MELTED", t.day(), 540);
        due("TODAY", t.count(0), 1);
        int[] places = {0, 0, 11, 0, 12, 0};
        for (int p = 0; p < 6; p++) {
            due("PLACE " + p, t.place(0, p), places[p]);
        }
        due("999 are GONE", t.block(0, 1), 0);
        due("grams GONE", t.count(5), 999);
        due("1000 are not", t.block(1, 1), 1000);
        due("nor 1001", t.block(2, 1), 1001);
        tell(t, 1, 0);
        t.terms(40, 200, 1001);
        due("LEAST raised, no LOSS", t.day(), 0);
        due("1000 are GONE", t.block(1, 2), -1);
        due("1001 are not", t.block(2, 2), 0);
        due("grams GONE", t.count(5), 1999);
        tell(t, 2, 10);
        t.terms(40, 200, 1);
        goTo(t, 7);
        due("LEAST 1", t.block(2, 1), 101);
        due("the last of it MELTED", t.day(), 101);
        due("nothing of it is GONE", t.count(5), 1999);
        due("none is left", t.count(9), 0);
        IceTrade one = with(ROOM, 1, 1, 1);
        one.terms(40, 200, 1);
        one.cut(0, 0, PLAIN, 1081);
        tell(one, 0, 60);
        one.day();
        due("one gram is LEAST", one.block(0, 1), 1);
        due("it lies there", one.place(0, 0), 10);
    }

    private static void ledOff() {
        says("The LOSS is LED off, if a DRAIN lies beneath in its column, or in the ROOM's layer 0; else it STANDS in the"
            + " ROOM.");
        due("no DRAIN", ledShare(-1), 0);
        due("in its column right beneath", ledShare(6), 1);
        due("in its column two beneath", ledShare(3), 1);
        due("in another column of layer 1", ledShare(4), 0);
        due("in another column of layer 2", ledShare(8), 0);
        due("above it", ledShare(12), 0);
        due("in layer 0 of another column", ledShare(2), 1);
        due("in layer 0 of its column", ledShare(0), 1);
        IceTrade wide = with(ROOM, 6, 6, 2);
        tell(wide, 0, 1);
        wide.cut(0, 0, PLAIN, 50000);
        wide.put(0, 36, DRAIN);
        wide.day();
        due("in the first PLACE of layer 1, above it", wide.rooms(0, 8), 0);
        wide.put(0, 35, DRAIN);
        wide.day();
        due("in the last PLACE of layer 0", wide.rooms(0, 8), 18);
        IceTrade t = with(ROOM, 1, 1, 1);
        addRoom(t, ROOM, 1, 1, 1, -1);
        tell(t, 0, 1);
        t.cut(0, 0, PLAIN, 5000);
        t.put(1, 0, DRAIN);
        t.day();
        due("in another ROOM", t.rooms(0, 8), 0);
        due("STANDING", t.rooms(0, 9), 18);
        due("the other ROOM", t.rooms(1, 8) + t.rooms(1, 9), 0);
        due("in all", t.count(7), 18);
    }

    /**
     * 1 if the LOSS of the BLOCK at PLACE 9 of 3 x 1 x 5 is LED off with a DRAIN at this PLACE (-1: with none), else 0.
     * As nothing is put on a DRAIN, a small BLOCK lies there first and is GONE: what is above stays.
     */
    private static int ledShare(int drain) {
        IceTrade t = with(ROOM, 3, 1, 5);
        for (int p = 0; p < 9; p++) {
            if (p == drain) {
                t.cut(0, p, PLAIN, 1000);
            } else {
                t.put(0, p, STRAW);
            }
        }
        int high = t.cut(0, 9, PLAIN, 900000);
        tell(t, 0, 1);
        t.day();
        due("the DRAIN", drain < 0 ? 0 : t.put(0, drain, DRAIN), 0);
        return share(t, high);
    }

    /** Its BLOCK alone is there to lose. */
    private static int share(IceTrade t, int block) {
        int led = t.rooms(0, 8);
        int standing = t.rooms(0, 9);
        int loss = t.block(block, 8);
        due("MELTED", t.day(), loss);
        int ledNow = t.rooms(0, 8) - led;
        due("LED or STANDING", ledNow + t.rooms(0, 9) - standing, loss);
        due("of all ROOMS LED", t.count(6), t.rooms(0, 8));
        due("of all ROOMS STANDING", t.count(7), t.rooms(0, 9));
        due("all of it or nothing", ledNow == 0 || ledNow == loss ? 1 : 0, 1);
        return ledNow > 0 ? 1 : 0;
    }

    private static void spoilt() {
        says("A CLEAR BLOCK is SPOILT on a day as whose beginning a SALT one lies at one of its sides, or it stands in"
            + " water.");
        int[][] salts = {{12, 1}, {14, 1}, {10, 1}, {16, 1}, {4, 1}, {22, 1}, {3, 0}, {9, 0}, {1, 0}, {5, 0}};
        for (int[] salt : salts) {
            due("SALT at " + salt[0], spoiltBySalt(CLEAR, salt[0], SALT), salt[1] == 1 ? 0 : -1);
            due("plain at " + salt[0], spoiltBySalt(CLEAR, salt[0], PLAIN), -1);
            due("CLEAR at " + salt[0], spoiltBySalt(CLEAR, salt[0], CLEAR), -1);
            due("a plain one, SALT at " + salt[0], spoiltBySalt(PLAIN, salt[0], SALT), -1);
            due("a SALT one, SALT at " + salt[0], spoiltBySalt(SALT, salt[0], SALT), -1);
        }
        IceTrade t = with(ROOM, 2, 1, 1);
        t.cut(0, 0, CLEAR, 5000);
        t.day();
        t.cut(0, 1, SALT, 1000);
        due("not ahead of a day", t.block(0, 5), -1);
        tell(t, 1, 10);
        t.day();
        due("the SALT one is GONE by that day", t.block(1, 2), -1);
        due("SPOILT on day 1", t.block(0, 5), 1);
        t.cut(0, 1, SALT, 5000);
        t.day();
        due("the first day stays", t.block(0, 5), 1);
        IceTrade taken = with(ROOM, 2, 1, 1);
        taken.cut(0, 0, CLEAR, 5000);
        taken.cut(0, 1, SALT, 5000);
        tell(taken, 0, 10);
        due("the SALT one is TAKEN ahead of it", taken.take(0, 1), 5000);
        taken.day();
        due("not SPOILT", taken.block(0, 5), -1);
        spoiltInWater();
    }

    private static int spoiltBySalt(int kind, int place, int other) {
        IceTrade t = with(ROOM, 3, 3, 3);
        if (place != 4) {
            t.put(0, 4, STRAW);
        }
        if (place < 9) {
            t.cut(0, place, other, 9000);
        }
        int block = t.cut(0, 13, kind, 9000);
        if (place >= 9) {
            if (t.place(0, place - 9) == 0) {
                t.put(0, place - 9, STRAW);
            }
            t.cut(0, place, other, 9000);
        }
        due("cut", t.count(8), 2);
        t.day();
        return t.block(block, 5);
    }

    private static void spoiltInWater() {
        IceTrade t = with(PIT, 2, 1, 2);
        tell(t, 0, -600);
        t.cut(0, 0, CLEAR, 5000);
        t.cut(0, 2, CLEAR, 5000);
        t.put(0, 1, DRAIN);
        t.day();
        due("a DRAIN is there", t.block(0, 5), -1);
        t.clear(0, 1);
        t.terms(40, 0, 1);
        due("nothing is lost in it", t.day(), 0);
        due("in water, WET 0", t.block(0, 5), 1);
        due("above it", t.block(1, 5), -1);
        IceTrade gone = with(PIT, 1, 1, 1);
        gone.cut(0, 0, CLEAR, 1000);
        gone.day();
        due("GONE", gone.block(0, 2), -1);
        due("SPOILT on the day by which it is GONE", gone.block(0, 5), 0);
    }

    private static void termsAtFirst() {
        says("PART is 40, WET 200, LEAST 1000 at first.");
        IceTrade t = with(PIT, 2, 1, 1);
        t.put(0, 1, STRAW);
        t.cut(0, 0, PLAIN, 2000 + 848 - 1);
        due("PART and WET", t.block(0, 8), 5 * 120 + 48 + 200);
        t.day();
        due("LEAST", t.block(0, 1), 1999);
        t.day();
        due("LEAST", t.block(0, 1), 1151);
        t.day();
        due("303 are GONE", t.count(5), 303);
        IceTrade least = with(ROOM, 2, 1, 1);
        tell(least, 0, 1);
        least.cut(0, 0, PLAIN, 1015);
        least.cut(0, 1, PLAIN, 1014);
        least.day();
        due("1000 stay", least.block(0, 1), 1000);
        due("999 are GONE", least.count(5), 999);
    }
}
