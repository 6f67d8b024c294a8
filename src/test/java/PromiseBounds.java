/** The boundaries that the sentences of Promises 1 to 34 name, each at the boundary and beside it. */
public final class PromiseBounds extends Bounds {
    public static void main(String[] args) {
        aNewObject();
        rooms();
        rows();
        places();
        blocks();
        warmthAndTerms();
        dayAndCounts();
        nextAndTake();
        wayHomeComes();
        sendSentList();
        foretelling();
        heapAndPack();
        imagesAndBack();
        books();
        end();
    }

    // Promise 1

    private static void aNewObject() {
        says("`IceTrade()`: No ROOMS, BLOCKS; nothing told.");
        IceTrade t = new IceTrade();
        for (int what = 0; what < 16; what++) {
            due("count(" + what + ")", t.count(what), 0);
        }
        for (int what = 0; what < 12; what++) {
            due("rooms(0, " + what + ")", t.rooms(0, what), -2);
        }
        for (int what = 0; what < 10; what++) {
            due("block(0, " + what + ")", t.block(0, what), -2);
        }
        for (int i = 0; i < 3; i++) {
            due("tenths(" + 99 * i + ")", t.tenths(99 * i), 0);
            due("sent(" + i + ")", t.sent(i), 0);
            due("list(" + i + ")", t.list(i), -1);
            due("foretold(-1, " + i + ")", t.foretold(-1, i), -1);
            due("line(" + i + ", 0)", t.line(i, 0), -2);
        }
        due("place", t.place(0, 0), -2);
        due("next", t.next(0), -2);
        due("comes", t.comes(0, 0), -2);
        due("last", t.last(), -1);
        due("check", t.check(), -7);
        due("status", t.status(), 0);
        due("take", t.take(0, 1), -2);
        due("send", t.send(0, 1), -2);
        due("pack", t.pack(0), -2);
        for (int k = 0; k < 4; k++) {
            due("back(" + k + ")", t.back(k), -2);
        }
        due("home", t.home(), 0);
        due("foretell", t.foretell(1, 0), 1);
        due("day", t.day(), 0);
        IceTrade other = new IceTrade();
        due("another object", other.count(0), 0);
        due("NONE", IceTrade.NONE, -1);
    }

    // Promises 2 and 3

    private static void rooms() {
        inWhichItIs();
        thereAreEight();
        whatOfARoom();
        ofAnEmptyRoom();
        ofAFullRoom();
    }

    private static void inWhichItIs() {
        says("-1: KIND, width, rows, layers, or (of an INNER one) in is no ROOM's number yet (others: in must be -1)");
        int[] inNone = {LEAST_INT, -2, -1, 0, 1, MOST_INT};
        IceTrade t = new IceTrade();
        for (int in : inNone) {
            due("INNER in " + in, t.room(INNER, 1, 1, 1, in), -1);
            for (int kind : new int[] {ROOM, CELLAR, BOAT, CART, PIT}) {
                due("kind " + kind + " in " + in, in == -1 ? -1 : t.room(kind, 1, 1, 1, in), -1);
            }
        }
        due("ROOMS", t.count(10), 0);
        due("ROOM 0", t.room(ROOM, 1, 1, 1, -1), 0);
        due("kind 1 in ROOM 0", t.room(CELLAR, 1, 1, 1, 0), -1);
        due("INNER in 1, itself", t.room(INNER, 1, 1, 1, 1), -1);
        due("INNER in 0", t.room(INNER, 1, 1, 1, 0), 1);
        due("INNER in 2, itself", t.room(INNER, 1, 1, 1, 2), -1);
        due("INNER in 1", t.room(INNER, 1, 1, 1, 1), 2);
        due("INNER in -1", t.room(INNER, 1, 1, 1, -1), -1);
        due("its in", t.rooms(2, 4), 1);
    }

    private static void thereAreEight() {
        says("-6: there are 8.");
        IceTrade t = new IceTrade();
        for (int number = 0; number < 8; number++) {
            due("ROOM " + number, t.room(PIT, 6, 6, 5, -1), number);
        }
        due("a ninth", t.room(PIT, 6, 6, 5, -1), -6);
        due("an INNER one in the eighth", t.room(INNER, 1, 1, 1, 7), -6);
        due("ROOMS", t.count(10), 8);
    }

    private static void whatOfARoom() {
        says("Of a ROOM what 0 KIND, 1 width, 2 rows, 3 layers, 4 in which it is (NONE), 5 WARMTH TODAY, 6 BLOCKS, 7 grams"
            + " in it, 8 LED, 9 STANDING grams, 10 sides in air of its BLOCKS, 11 FREE ones. -2; -1 for another what."
            + " (WARMTH as it is.)");
        IceTrade t = with(ROOM, 4, 3, 2);
        addRoom(t, INNER, 2, 1, 1, 0);
        tell(t, 0, 1);
        tell(t, 1, -600);
        t.cut(0, 0, PLAIN, 5000);
        t.cut(0, 12, CLEAR, 6000);
        t.cut(0, 2, PLAIN, 7000);
        t.cut(1, 0, PLAIN, 8000);
        t.put(1, 1, DRAIN);
        t.day();
        int[][] want = {
            {ROOM, 4, 3, 2, -1, -600, 3, 18000 - 48, 0, 48, 16, 2},
            {INNER, 2, 1, 1, 0, -600, 1, 8000 - 18, 18, 0, 6, 1},
        };
        for (int room = 0; room < 2; room++) {
            for (int what = 0; what < 12; what++) {
                due("rooms(" + room + ", " + what + ")", t.rooms(room, what), want[room][what]);
            }
            due("what -1", t.rooms(room, -1), -1);
            due("what 12", t.rooms(room, 12), -1);
        }
        due("no ROOM 2", t.rooms(2, 0), -2);
        due("no ROOM -1", t.rooms(-1, 0), -2);
    }

    private static void ofAnEmptyRoom() {
        IceTrade t = new IceTrade();
        t.room(CELLAR, 1, 1, 1, -1);
        int[] want = {CELLAR, 1, 1, 1, -1, 40, 0, 0, 0, 0, 0, 0};
        for (int what = 0; what < 12; what++) {
            due("of an empty one: " + what, t.rooms(0, what), want[what]);
        }
    }

    private static void ofAFullRoom() {
        IceTrade t = with(PIT, 6, 6, 5);
        for (int p = 0; p < 180; p++) {
            t.cut(0, p, SALT, 1000000);
        }
        int[] want = {PIT, 6, 6, 5, -1, 40 - 360, 180, 180000000, 0, 0, 192, 36};
        for (int what = 0; what < 12; what++) {
            due("of a full one: " + what, t.rooms(0, what), want[what]);
        }
        due("all stand in water below", t.day(), 36 * 200);
        due("STANDING", t.rooms(0, 9), 36 * 200);
    }

    // Promises 4 and 5

    private static void rows() {
        says("A ROW is LAID: 0. -1 layer, row; -2 ROOM; -7 it is already, or not the one beneath.");
        IceTrade t = new IceTrade();
        t.room(ROOM, 6, 6, 5, -1);
        due("ROOM 1", t.lay(1, 0, 0), -2);
        due("ROOM -1", t.lay(-1, 0, 0), -2);
        for (int z = -1; z <= 5; z++) {
            due("row -1 of layer " + z, t.lay(0, z, -1), -1);
            due("row 6 of layer " + z, t.lay(0, z, 6), -1);
        }
        for (int y = 0; y < 6; y++) {
            due("layer -1", t.lay(0, -1, y), -1);
            due("layer 5", t.lay(0, 5, y), -1);
            for (int z = 0; z < 5; z++) {
                due("not the one beneath", z == 4 ? -7 : t.lay(0, z + 1, y), -7);
                due("layer " + z + ", row " + y, t.lay(0, z, y), 0);
                due("already", t.lay(0, z, y), -7);
            }
        }
        says("It is TORN: 0. -1, -2 likewise; -3; -7 it holds something, or one above is LAID.");
        due("ROOM 1", t.tear(1, 0, 0), -2);
        due("ROOM -1", t.tear(-1, 0, 0), -2);
        for (int y = 0; y < 6; y++) {
            due("layer -1", t.tear(0, -1, y), -1);
            due("layer 5", t.tear(0, 5, y), -1);
            for (int z = 4; z >= 0; z--) {
                due("one above", z == 0 ? -7 : t.tear(0, z - 1, y), -7);
                due("layer " + z + ", row " + y, t.tear(0, z, y), 0);
                due("not LAID", t.tear(0, z, y), -3);
            }
        }
        due("row -1", t.tear(0, 0, -1), -1);
        due("row 6", t.tear(0, 0, 6), -1);
        holdsSomething();
    }

    private static void holdsSomething() {
        for (int place = 0; place < 12; place++) {
            IceTrade t = with(ROOM, 3, 2, 2);
            int beneath = place % 6;
            t.put(0, beneath, STRAW);
            if (place >= 6) {
                t.put(0, place, DRAIN);
            }
            for (int y = 0; y < 2; y++) {
                boolean held = place >= 6 && place / 3 % 2 == y;
                due("layer 1, row " + y + ", held at " + place, t.tear(0, 1, y), held ? -7 : 0);
                due("layer 0, row " + y + ", held at " + place, t.tear(0, 0, y), beneath / 3 == y ? -7 : 0);
            }
        }
    }

    // Promises 6 to 9

    private static void places() {
        says("A BLOCK of a kind (0 .. 2), 1000 .. 1000000 grams, is cut and put: its number. -1 kind, grams, PLACE; -2"
            + " ROOM; -3; -4; -5; -6 (300).");
        IceTrade t = with(ROOM, 3, 2, 1);
        int[][] wrong = {{0, -1, 1000}, {0, 3, 1000}, {0, 0, 999}, {0, 0, 1000001}, {0, 0, 0}, {0, 0, -1000},
            {-1, 0, 1000}, {6, 0, 1000}};
        for (int[] w : wrong) {
            due("cut(0, " + w[0] + ", " + w[1] + ", " + w[2] + ")", t.cut(0, w[0], w[1], w[2]), -1);
        }
        due("none is cut", t.count(8), 0);
        int[][] right = {{0, 0, 1000}, {1, 1, 1001}, {2, 2, 999999}, {5, 0, 1000000}};
        for (int i = 0; i < right.length; i++) {
            int[] r = right[i];
            due("cut(0, " + r[0] + ", " + r[1] + ", " + r[2] + ")", t.cut(0, r[0], r[1], r[2]), i);
            due("its PLACE", t.place(0, r[0]), 10 + i);
            due("its kind", t.block(i, 0), r[1]);
            due("its grams", t.block(i, 1), r[2]);
        }
        due("CUT", t.count(1), 2002000);
        threeHundred();
        whatIsPut();
        whatIsCleared();
        whatIsAtAPlace();
    }

    private static void threeHundred() {
        IceTrade t = with(ROOM, 6, 6, 5);
        addRoom(t, ROOM, 6, 6, 4, -1);
        for (int b = 0; b < 299; b++) {
            t.cut(b / 180, b % 180, PLAIN, 1000);
        }
        due("the 300th", t.cut(1, 119, PLAIN, 1000), 299);
        due("status", t.status(), 0);
        due("the 301st", t.cut(1, 120, PLAIN, 1000), -6);
        due("status", t.status(), -6);
        due("PLACE", t.place(1, 120), 0);
        due("STRAW can be put yet", t.put(1, 120, STRAW), 0);
    }

    private static void whatIsPut() {
        says("STRAW is put (what 0), a DRAIN (1): 0. -1 what, PLACE; -2; -3; -4; -5; -7 where no STRAW may be.");
        IceTrade t = with(ROOM, 3, 1, 1);
        due("what -1", t.put(0, 0, -1), -1);
        due("what 0", t.put(0, 0, 0), 0);
        due("what 1", t.put(0, 1, 1), 0);
        due("what 2", t.put(0, 2, 2), -1);
        due("PLACE -1", t.put(0, -1, 0), -1);
        due("PLACE 3", t.put(0, 3, 0), -1);
        int[] held = {1, 2, 0};
        for (int p = 0; p < 3; p++) {
            due("PLACE " + p, t.place(0, p), held[p]);
        }
        IceTrade boats = with(BOAT, 1, 1, 1);
        addRoom(boats, BOAT, 1, 1, 2, -1);
        addRoom(boats, CART, 1, 1, 1, -1);
        addRoom(boats, CART, 1, 1, 2, -1);
        int[] straw = {-7, 0, -7, -7};
        for (int room = 0; room < 4; room++) {
            due("STRAW in ROOM " + room, boats.put(room, 0, STRAW), straw[room]);
        }
        boats.cut(3, 0, PLAIN, 1000);
        due("STRAW on a BLOCK on a CART", boats.put(3, 1, STRAW), -7);
        due("STRAW on STRAW on a BOAT", boats.put(1, 1, STRAW), 0);
    }

    private static void whatIsCleared() {
        says("STRAW or a DRAIN is taken away: 0. -1, -2 likewise; -3; -7 there is none, or something lies right above.");
        for (int above = 0; above < 3; above++) {
            IceTrade t = with(ROOM, 2, 2, 3);
            t.put(0, 0, STRAW);
            due("put above", above == 2 ? t.cut(0, 4, PLAIN, 1000) : t.put(0, 4, above), 0);
            due("what " + above + " right above", t.clear(0, 0), -7);
            due("a BLOCK is no STRAW", t.clear(0, 4), above == 2 ? -7 : 0);
            if (above == 2) {
                t.take(0, 1);
            }
            due("nothing right above", t.clear(0, 0), 0);
            due("nothing there", t.clear(0, 0), -7);
        }
        IceTrade t = with(ROOM, 2, 2, 3);
        t.put(0, 0, STRAW);
        t.cut(0, 1, PLAIN, 1000);
        t.put(0, 5, STRAW);
        t.put(0, 2, DRAIN);
        due("something above that beside it", t.clear(0, 0), 0);
        due("a DRAIN", t.clear(0, 2), 0);
        due("PLACE -1", t.clear(0, -1), -1);
        due("PLACE 12", t.clear(0, 12), -1);
        due("PLACE 11", t.clear(0, 11), -7);
        t.tear(0, 2, 1);
        due("not LAID", t.clear(0, 11), -3);
        due("ROOM 1", t.clear(1, 0), -2);
        twoAbove();
    }

    /** STRAW hangs in layer 2 above one that is GONE in layer 1. */
    private static void twoAbove() {
        IceTrade t = with(ROOM, 1, 1, 3);
        tell(t, 0, 1);
        t.put(0, 0, STRAW);
        t.cut(0, 1, PLAIN, 1000);
        t.put(0, 2, STRAW);
        t.day();
        due("the one between is GONE", t.place(0, 1), 0);
        due("two above is not right above", t.clear(0, 0), 0);
        due("what hangs is cleared too", t.clear(0, 2), 0);
    }

    private static void whatIsAtAPlace() {
        says("What is at a PLACE: 0 nothing, 1 STRAW, 2 a DRAIN, 10 and a BLOCK's number; -1; -2; -3.");
        IceTrade t = with(ROOM, 6, 6, 5);
        due("the first", t.place(0, 0), 0);
        due("the last", t.place(0, 179), 0);
        due("PLACE -1", t.place(0, -1), -1);
        due("PLACE 180", t.place(0, 180), -1);
        due("ROOM 1", t.place(1, 0), -2);
        due("ROOM -1", t.place(-1, 0), -2);
        t.tear(0, 4, 5);
        due("not LAID", t.place(0, 174), -3);
        due("LAID", t.place(0, 173), 0);
        t.put(0, 0, STRAW);
        t.put(0, 1, DRAIN);
        due("STRAW", t.place(0, 0), 1);
        due("a DRAIN", t.place(0, 1), 2);
        due("BLOCK 0", t.cut(0, 2, PLAIN, 1000) + t.place(0, 2), 10);
        due("BLOCK 1", t.cut(0, 3, PLAIN, 1000) + t.place(0, 3), 12);
    }

    // Promise 10

    private static void blocks() {
        says("Of a BLOCK what 0 kind, 1 grams (of a TAKEN one what it weighed then, 0 of one that is GONE), 2 ROOM (NONE:"
            + " TAKEN or GONE), 3 PLACE (NONE), 4 the day on which it was cut, 5 SPOILT: the first day (NONE)");
        IceTrade t = with(ROOM, 4, 1, 1);
        addRoom(t, ROOM, 3, 1, 1, -1);
        tell(t, 0, 10);
        t.day();
        t.cut(0, 3, CLEAR, 5000);
        t.cut(0, 2, SALT, 1000);
        t.cut(1, 2, CLEAR, 6000);
        t.day();
        t.take(0, 1);
        // WARMTH 8 of ROOM 0: five sides of 24; WARMTH 10 of ROOM 1: six of 30
        int[][] want = {{1, 4880, -1, -1, 1, 1}, {2, 0, -1, -1, 1, -1}, {1, 5820, 1, 2, 1, -1}};
        for (int b = 0; b < 3; b++) {
            for (int what = 0; what < 6; what++) {
                due("block(" + b + ", " + what + ")", t.block(b, what), want[b][what]);
            }
        }
        t.day();
        due("TAKEN: what it weighed then", t.block(0, 1), 4880);
        due("cut on day 198", cutOn(198), 198);
        due("cut on day 199", cutOn(199), 199);
        takenIsNotSpoilt();
        outOfRooms();
        noSuchBlock();
    }

    private static int cutOn(int day) {
        IceTrade t = with(ROOM, 1, 1, 1);
        goTo(t, day);
        return t.block(t.cut(0, 0, PLAIN, 1000), 4);
    }

    /** Where it lay, SALT and water come behind it. */
    private static void takenIsNotSpoilt() {
        IceTrade t = with(PIT, 2, 1, 1);
        t.cut(0, 0, CLEAR, 5000);
        t.take(0, 1);
        t.cut(0, 0, SALT, 5000);
        t.cut(0, 1, SALT, 5000);
        t.day();
        due("TAKEN, then SALT there", t.block(0, 5), -1);
        IceTrade gone = with(ROOM, 2, 1, 1);
        tell(gone, 0, 10);
        gone.cut(0, 0, CLEAR, 1000);
        gone.day();
        gone.cut(0, 1, SALT, 5000);
        gone.day();
        due("GONE, then SALT beside it", gone.block(0, 5), -1);
    }

    private static void outOfRooms() {
        says("6 sides in air, 7 in STRAW, 8 LOSS TODAY (6 to 8: 0 out of ROOMS), 9 1 if it is FREE, else 0.");
        IceTrade t = with(PIT, 2, 1, 2);
        t.put(0, 1, STRAW);
        t.cut(0, 0, PLAIN, 5000);
        int[] lies = {5, 1, 5 * 120 + 48 + 200, 1};
        int[] beneath = {4, 1, 4 * 120 + 48 + 200, 0};
        int[] out = {0, 0, 0, 0};
        dueOf(t, "lies there", lies);
        t.cut(0, 2, PLAIN, 1000);
        dueOf(t, "beneath another", beneath);
        t.take(0, 2);
        dueOf(t, "TAKEN", out);
        IceTrade gone = with(PIT, 1, 1, 1);
        gone.cut(0, 0, PLAIN, 1000);
        gone.day();
        dueOf(gone, "GONE", out);
    }

    private static void dueOf(IceTrade t, String how, int[] want) {
        for (int i = 0; i < 4; i++) {
            due(how + ": block(0, " + (6 + i) + ")", t.block(0, 6 + i), want[i]);
        }
    }

    private static void noSuchBlock() {
        says("-2; -1 for another what.");
        IceTrade t = with(ROOM, 2, 1, 1);
        due("BLOCK 0, none is cut", t.block(0, 0), -2);
        t.cut(0, 0, PLAIN, 1000);
        due("BLOCK 0", t.block(0, 0), 0);
        due("BLOCK 1", t.block(1, 0), -2);
        due("BLOCK -1", t.block(-1, 0), -2);
        due("what -1", t.block(0, -1), -1);
        due("what 9", t.block(0, 9), 1);
        due("what 10", t.block(0, 10), -1);
    }

    // Promises 11 to 13

    private static void warmthAndTerms() {
        says("OUTSIDE of a day is the float with these bits: 0; -1: no such day, not -60 .. 60 (no number: it is told as not"
            + " read).");
        IceTrade t = new IceTrade();
        due("no number of no day", t.warm(200, NOT_A_NUMBER), -1);
        due("no number of day -1", t.warm(-1, NOT_A_NUMBER), -1);
        due("60", t.warm(0, 0x42700000), 0);
        due("above 60", t.warm(0, 0x42700001), -1);
        due("-60", t.warm(0, 0xc2700000), 0);
        due("below -60", t.warm(0, 0xc2700001), -1);
        due("the last number", t.warm(0, 0x7f800000), -1);
        due("the first that is none", t.warm(0, 0x7f800001), 0);
        due("the last number below 0", t.warm(0, 0xff800000), -1);
        due("the first that is none", t.warm(0, 0xff800001), 0);
        due("told again", t.warm(0, bits(1f)), 0);
        due("told anew", t.warm(0, bits(2f)), 0);
        due("the latest", t.tenths(0), 20);
        says("TENTHS of a day; -1000 for no such day.");
        due("day -1", t.tenths(-1), -1000);
        due("day 0", t.tenths(0), 20);
        due("day 199", t.tenths(199), 20);
        due("day 200", t.tenths(200), -1000);
        goTo(t, 5);
        due("a day that is over", t.tenths(0), 20);
        terms();
    }

    private static void terms() {
        says("PART (0 .. 100), WET (0 .. 10000), LEAST (1 .. 1000000): 0; -1.");
        int[][] cases = {{-1, 0, 1, -1}, {0, 0, 1, 0}, {100, 0, 1, 0}, {101, 0, 1, -1}, {0, -1, 1, -1}, {0, 1, 1, 0},
            {0, 10000, 1, 0}, {0, 10001, 1, -1}, {0, 0, 0, -1}, {0, 0, 2, 0}, {0, 0, 1000000, 0}, {0, 0, 1000001, -1},
            {100, 10000, 1000000, 0}, {-1, -1, 0, -1}};
        for (int[] c : cases) {
            IceTrade t = with(PIT, 2, 1, 1);
            t.put(0, 1, STRAW);
            t.cut(0, 0, PLAIN, 1000000);
            String call = "terms(" + c[0] + ", " + c[1] + ", " + c[2] + ")";
            due(call, t.terms(c[0], c[1], c[2]), c[3]);
            boolean told = c[3] == 0;
            int part = told ? c[0] : 40;
            int wet = told ? c[1] : 200;
            int loss = 5 * 120 + 120 * part / 100 + wet;
            due("LOSS by " + call, t.block(0, 8), loss);
            t.day();
            boolean gone = told && 1000000 - loss < c[2];
            due("LEAST by " + call, t.block(0, 2), gone ? -1 : 0);
        }
        IceTrade least = with(ROOM, 1, 1, 1);
        tell(least, 0, -1);
        least.cut(0, 0, PLAIN, 1000000);
        least.terms(0, 0, 1000000);
        least.day();
        due("the heaviest is not below the greatest LEAST", least.block(0, 2), 0);
    }

    // Promises 14 and 15

    private static void dayAndCounts() {
        says("A DAY goes by: how many grams MELTED on it; -7: TODAY is 199.");
        IceTrade t = with(ROOM, 1, 1, 1);
        due("without BLOCKS", t.day(), 0);
        t.cut(0, 0, PLAIN, 1009);
        tell(t, 1, 1);
        due("18, and 991 are GONE", t.day(), 18);
        due("GONE are not MELTED", t.count(4), 18);
        goTo(t, 198);
        t.cut(0, 0, PLAIN, 90000);
        due("TODAY is 198", t.day(), 18);
        due("TODAY is 199", t.day(), -7);
        due("TODAY", t.count(0), 199);
        due("MELTED", t.count(4), 36);
        due("the BLOCK", t.block(1, 1), 89982);
        due("LOSS TODAY", t.block(1, 8), 18);
        counts();
    }

    private static void counts() {
        says("TODAY (0), grams CUT (1), in ROOMS (2), SOLD (3), MELTED (4), GONE (5), LED (6), STANDING (7), BLOCKS ever"
            + " (8), in ROOMS (9), ROOMS (10), STRETCHES of THE WAY (11), its days (12), LINES of THE BOOK (13), BLOCKS of"
            + " the HEAP (14), of the latest TAKEN or SENT ones (15). -1 for others.");
        IceTrade t = with(ROOM, 5, 1, 1);
        addRoom(t, ROOM, 2, 1, 1, -1);
        tell(t, 0, 10);
        t.cut(0, 0, PLAIN, 5000);
        t.cut(0, 2, PLAIN, 1100);
        t.cut(1, 0, PLAIN, 6000);
        t.put(1, 1, DRAIN);
        t.cut(0, 4, PLAIN, 7000);
        t.take(0, 1);
        t.way(BOAT, 20);
        t.way(BOAT, 0);
        t.way(CART, 3);
        fillHeap(t, 4);
        t.day();
        int[] want = {1, 19100, 5820 + 6820, 5000, 540, 920, 180, 360, 4, 2, 2, 3, 23, 3, 4, 1};
        for (int what = 0; what < 16; what++) {
            due("count(" + what + ")", t.count(what), want[what]);
        }
        due("count(-1)", t.count(-1), -1);
        due("count(16)", t.count(16), -1);
        theMostGrams();
    }

    private static void theMostGrams() {
        IceTrade t = new IceTrade();
        for (int b = 0; b < 300; b++) {
            if (b % 180 == 0) {
                addRoom(t, ROOM, 6, 6, 5, -1);
            }
            t.cut(b / 180, b % 180, SALT, 1000000);
        }
        due("CUT", t.count(1), 300000000);
        due("in ROOMS", t.count(2), 300000000);
        due("all of a ROOM", t.take(0, 180), 180000000);
        due("list(179)", Math.min(t.list(179), 0), 0);
        due("list(180)", t.list(180), -1);
        due("TAKEN", t.count(15), 180);
        t.take(1, 120);
        due("SOLD", t.count(3), 300000000);
        due("in ROOMS", t.count(9), 0);
        due("BLOCKS ever", t.count(8), 300);
    }

    // Promises 16 and 17

    private static void nextAndTake() {
        says("THE NEXT of a ROOM: its number; NONE without FREE ones; -2.");
        IceTrade t = with(ROOM, 1, 1, 1);
        addRoom(t, ROOM, 1, 1, 1, -1);
        due("an empty ROOM", t.next(0), -1);
        due("ROOM 2", t.next(2), -2);
        due("ROOM -1", t.next(-1), -2);
        t.put(0, 0, STRAW);
        due("STRAW alone", t.next(0), -1);
        t.cut(1, 0, PLAIN, 1000);
        due("of the other ROOM", t.next(0), -1);
        due("BLOCK 0", t.next(1), 0);
        tell(t, 0, 10);
        t.day();
        due("GONE", t.next(1), -1);
        says("n BLOCKS (1 .. 300) are TAKEN and SOLD: what they weigh. -1; -2; -6: the ROOM has not so many.");
        IceTrade three = with(ROOM, 2, 1, 2);
        addRoom(three, ROOM, 1, 1, 1, -1);
        three.cut(0, 0, PLAIN, 5000);
        three.cut(0, 1, PLAIN, 6000);
        three.cut(0, 2, PLAIN, 7000);
        three.cut(1, 0, PLAIN, 8000);
        due("n -1", three.take(0, -1), -1);
        due("n 0", three.take(0, 0), -1);
        due("n 301", three.take(0, 301), -1);
        due("n 300", three.take(0, 300), -6);
        due("n 4", three.take(0, 4), -6);
        due("the other ROOM's stay", three.count(2), 26000);
        due("n 3", three.take(0, 3), 18000);
        due("n 1 of none", three.take(0, 1), -6);
        due("n 1", three.take(1, 1), 8000);
        due("SOLD", three.count(3), 26000);
        due("ROOM 2", three.take(2, 1), -2);
        due("ROOM -1", three.take(-1, 1), -2);
    }

    // Promises 18 to 20

    private static void wayHomeComes() {
        says("One more STRETCH on a CART (kind 4) or BOAT (3): how many. -1; -6.");
        IceTrade t = new IceTrade();
        for (int kind = -1; kind <= 6; kind++) {
            boolean rides = kind == BOAT || kind == CART;
            due("kind " + kind, t.way(kind, 5), rides ? kind - 2 : -1);
        }
        due("days -1", t.way(BOAT, -1), -1);
        due("days 0", t.way(BOAT, 0), 3);
        due("days 20", t.way(BOAT, 20), 4);
        due("days 21", t.way(BOAT, 21), -1);
        due("a fifth", t.way(CART, 20), 5);
        due("a sixth", t.way(CART, 20), 6);
        due("a seventh", t.way(CART, 0), -6);
        says("THE WAY has no STRETCHES: how many it had.");
        due("six", t.home(), 6);
        due("none", t.home(), 0);
        due("STRETCHES", t.count(11), 0);
        due("days", t.count(12), 0);
        due("again the first", t.way(BOAT, 20), 1);
        due("one", t.home(), 1);
        comes();
    }

    private static void comes() {
        says("What n BLOCKS (0 .. 300) that would be TAKEN from a ROOM COME to. -1; -2; -6.");
        IceTrade t = with(ROOM, 5, 1, 1);
        due("n 0 of none", t.comes(0, 0), 0);
        due("n 1 of none", t.comes(0, 1), -6);
        t.cut(0, 0, PLAIN, 5000);
        t.cut(0, 2, PLAIN, 6000);
        t.cut(0, 4, PLAIN, 7000);
        due("n -1", t.comes(0, -1), -1);
        int[] come = {0, 5000, 11000, 18000};
        for (int n = 0; n <= 3; n++) {
            due("n " + n, t.comes(0, n), come[n]);
        }
        due("n 4", t.comes(0, 4), -6);
        due("n 300", t.comes(0, 300), -6);
        due("n 301", t.comes(0, 301), -1);
        due("ROOM 1", t.comes(1, 0), -2);
        due("ROOM -1", t.comes(-1, 0), -2);
        due("all lie there", t.rooms(0, 6), 3);
        due("none is TAKEN", t.count(15), 0);
        due("nor SOLD", t.count(3), 0);
        due("the same again", t.comes(0, 3), 18000);
        t.home();
        t.home();
        due("without a WAY", t.comes(0, 1), 5000);
    }

    // Promises 21 to 24

    private static void sendSentList() {
        says("Grams (1 .. 100000000) are SENT from a ROOM, and SOLD: how many BLOCKS. -1; -2; -6: SHORT.");
        IceTrade t = with(ROOM, 1, 1, 1);
        t.cut(0, 0, PLAIN, 1000);
        due("grams -1", t.send(0, -1), -1);
        due("grams 0", t.send(0, 0), -1);
        due("grams 100000001", t.send(0, 100000001), -1);
        due("grams 100000000", t.send(0, 100000000), -6);
        due("grams 1001", t.send(0, 1001), -6);
        due("ROOM 1", t.send(1, 1), -2);
        due("ROOM -1", t.send(-1, 1), -2);
        due("grams 1", t.send(0, 1), 1);
        due("SOLD is all of it", t.count(3), 1000);
        t.cut(0, 0, PLAIN, 1000);
        due("grams 1000", t.send(0, 1000), 1);
        theLatestSend();
        theLatestList();
        prices();
    }

    private static void theLatestSend() {
        says("Of the latest send() that was not -1 or -2: 0 grams it was SHORT of (0), 1 what they COME to (0 if SHORT), 2"
            + " BILL (0). -1 for others; 0 ahead of any.");
        IceTrade t = with(ROOM, 3, 1, 1);
        t.price(PLAIN, 1000);
        dueSent(t, "ahead of any", 0, 0, 0);
        t.cut(0, 0, PLAIN, 5000);
        t.cut(0, 2, PLAIN, 6000);
        t.take(0, 1);
        dueSent(t, "take() is no send()", 0, 0, 0);
        t.way(BOAT, 1);
        due("SHORT", t.send(0, 6000), -6);
        dueSent(t, "SHORT", 180, 0, 0);
        t.send(0, 0);
        t.send(1, 1);
        dueSent(t, "-1 and -2 leave it", 180, 0, 0);
        due("SENT", t.send(0, 5820), 1);
        dueSent(t, "SENT", 0, 5820, 6000);
        t.send(0, 100000001);
        t.send(-1, 1);
        t.home();
        t.image(0);
        t.back(0);
        dueSent(t, "they stay", 0, 5820, 6000);
        due("SHORT again", t.send(0, 9), -6);
        dueSent(t, "SHORT again", 9, 0, 0);
        due("what -1", t.sent(-1), -1);
        due("what 3", t.sent(3), -1);
    }

    private static void dueSent(IceTrade t, String how, int missing, int arrived, int bill) {
        due(how + ": sent(0)", t.sent(0), missing);
        due(how + ": sent(1)", t.sent(1), arrived);
        due(how + ": sent(2)", t.sent(2), bill);
    }

    private static void theLatestList() {
        says("BLOCK i of the latest take(), send() that was not REFUSED, in the order in which they were TAKEN; NONE.");
        IceTrade t = with(ROOM, 5, 1, 1);
        due("ahead of any", t.list(0), -1);
        t.cut(0, 4, PLAIN, 1000);
        t.cut(0, 2, PLAIN, 1000);
        t.cut(0, 0, PLAIN, 1000);
        t.take(0, 2);
        int[] taken = {2, 1, -1};
        for (int i = 0; i < 3; i++) {
            due("list(" + i + ")", t.list(i), taken[i]);
        }
        due("list(-1)", t.list(-1), -1);
        t.take(0, 2);
        t.take(0, 0);
        t.take(1, 1);
        t.send(0, 1001);
        t.send(0, 0);
        t.comes(0, 1);
        due("REFUSED ones leave it", t.list(0), 2);
        due("all of it", t.list(1), 1);
        due("so many", t.count(15), 2);
        t.send(0, 1);
        due("the latest", t.list(0), 0);
        due("the others are no more", t.list(1), -1);
        due("so many", t.count(15), 1);
        t.cut(0, 0, PLAIN, 1000);
        t.take(0, 1);
        due("take() again", t.list(0), 3);
    }

    private static void prices() {
        says("The PRICE of a kind for a kilo is cents (0 .. 5000; 0 at first): 0; -1.");
        for (int kind = 0; kind < 3; kind++) {
            int[][] cents = {{0, 0}, {-1, -1}, {1, 0}, {5000, 0}, {5001, -1}};
            IceTrade t = with(ROOM, 1, 1, 1);
            int price = 0;
            for (int[] c : cents) {
                due("price(" + kind + ", " + c[0] + ")", t.price(kind, c[0]), c[1]);
                price = c[1] == 0 ? c[0] : price;
                t.cut(0, 0, kind, 1000);
                t.send(0, 1000);
                due("BILL of a kilo", t.sent(2), price);
            }
            IceTrade other = with(ROOM, 1, 1, 1);
            other.price((kind + 1) % 3, 7);
            other.price((kind + 2) % 3, 9);
            other.cut(0, 0, kind, 1000000);
            other.send(0, 1);
            due("0 at first", other.sent(2), 0);
        }
        IceTrade t = new IceTrade();
        due("kind -1", t.price(-1, 0), -1);
        due("kind 3", t.price(3, 0), -1);
    }

    // Promises 25 to 27

    private static void foretelling() {
        says("DAYS (1 .. 200) are FORETOLD by BACK (0 .. 199): how many were. -1.");
        int[][] cases = {{0, 0, -1}, {1, 0, 1}, {200, 0, 199}, {201, 0, -1}, {1, -1, -1}, {1, 199, 1}, {1, 200, -1},
            {199, 199, 199}, {198, 1, 198}, {-1, 0, -1}};
        for (int[] c : cases) {
            IceTrade t = with(ROOM, 1, 1, 1);
            due("foretell(" + c[0] + ", " + c[1] + ")", t.foretell(c[0], c[1]), c[2]);
            due("the last one", t.foretold(0, c[2]), c[2] < 0 ? -1 : 0);
            due("one more", t.foretold(0, c[2] + 1), -1);
        }
        ofTheLatest();
        ofEightRooms();
        lastDays();
    }

    private static void ofTheLatest() {
        says("Of the latest foretell(): what a ROOM holds behind day i of it (0 ahead of the first one), in grams; of room"
            + " -1 all; -1 if there is none such (ROOMS that there were then).");
        IceTrade t = new IceTrade();
        due("ahead of any", t.foretold(-1, 0), -1);
        t.foretell(2, 0);
        due("without ROOMS: all", t.foretold(-1, 2), 0);
        due("no ROOM 0", t.foretold(0, 0), -1);
        addRoom(t, ROOM, 1, 1, 1, -1);
        due("nor now", t.foretold(0, 0), -1);
        tell(t, 0, 10);
        t.cut(0, 0, PLAIN, 5000);
        t.image(0);
        addRoom(t, ROOM, 1, 1, 1, -1);
        t.cut(1, 0, PLAIN, 3000);
        t.foretell(2, 0);
        int[][] want = {{8000, 5000, 3000}, {7640, 4820, 2820}, {7280, 4640, 2640}};
        for (int i = 0; i < 3; i++) {
            for (int room = -1; room < 2; room++) {
                due("foretold(" + room + ", " + i + ")", t.foretold(room, i), want[i][room + 1]);
            }
        }
        due("day 3", t.foretold(0, 3), -1);
        due("day -1", t.foretold(0, -1), -1);
        due("room -2", t.foretold(-2, 0), -1);
        due("room 2", t.foretold(2, 0), -1);
        t.back(0);
        due("ROOM 1 is no more, but was then", t.foretold(1, 2), 2640);
        t.day();
        t.foretell(0, 0);
        due("the latest that was not REFUSED", t.foretold(-1, 0), 8000);
        t.foretell(1, 0);
        due("fewer days", t.foretold(-1, 2), -1);
        due("fewer ROOMS", t.foretold(1, 0), -1);
        due("from TODAY on", t.foretold(-1, 0), 4820);
    }

    private static void ofEightRooms() {
        IceTrade t = new IceTrade();
        tell(t, 0, 1);
        for (int room = 0; room < 8; room++) {
            addRoom(t, ROOM, 1, 1, 1, -1);
            t.cut(room, 0, PLAIN, 100000 + room);
        }
        due("days", t.foretell(20, 0), 20);
        for (int i = 0; i <= 20; i++) {
            for (int room = 0; room < 8; room++) {
                due("foretold(" + room + ", " + i + ")", t.foretold(room, i), 100000 + room - 18 * i);
            }
            due("foretold(-1, " + i + ")", t.foretold(-1, i), 800028 - 8 * 18 * i);
            due("foretold(8, " + i + ")", t.foretold(8, i), -1);
        }
    }

    private static void lastDays() {
        says("In the latest foretell(): the first day at whose end no BLOCK was left (as a number 0 .. 199); TODAY then,"
            + " less 1, if there was none at first; -2 if some were at its end; -1 ahead of any.");
        IceTrade t = with(ROOM, 1, 1, 1);
        due("ahead of any", t.last(), -1);
        t.foretell(1, 0);
        due("none at first, TODAY 0", t.last(), -1);
        tell(t, 0, 10);
        t.cut(0, 0, PLAIN, 1179);
        t.foretell(1, 0);
        due("day 0", t.last(), 0);
        t.take(0, 1);
        t.cut(0, 0, PLAIN, 1180);
        t.foretell(1, 0);
        due("one day is too few", t.last(), -2);
        t.foretell(2, 0);
        due("day 1", t.last(), 1);
        t.foretell(200, 0);
        due("the first such day", t.last(), 1);
        t.foretell(201, 0);
        due("REFUSED", t.last(), 1);
        t.day();
        t.foretell(1, 0);
        due("day 1 from day 1", t.last(), 1);
        t.day();
        due("GONE", t.count(9), 0);
        t.foretell(1, 0);
        due("none at first, TODAY 2", t.last(), 1);
        goTo(t, 198);
        t.cut(0, 0, PLAIN, 1000);
        t.foretell(200, 0);
        due("the last day that goes by", t.last(), 198);
        t.day();
        t.foretell(1, 0);
        due("none at first, TODAY 199", t.last(), 198);
    }

    // Promises 28 and 29

    private static void heapAndPack() {
        says("A weight and kind more for the HEAP: how many; -1; -6.");
        IceTrade t = new IceTrade();
        int[][] cases = {{-1, 1000, -1}, {0, 1000, 1}, {2, 1000000, 2}, {3, 1000, -1}, {0, 999, -1}, {1, 1000001, -1}};
        for (int[] c : cases) {
            due("heap(" + c[0] + ", " + c[1] + ")", t.heap(c[0], c[1]), c[2]);
        }
        for (int n = 3; n <= 30; n++) {
            due("heap " + n, t.heap(1, 1000), n);
        }
        due("a 31st", t.heap(1, 1000), -6);
        due("BLOCKS of the HEAP", t.count(14), 30);
        packs();
        everyRowLaid();
    }

    private static void packs() {
        says("The HEAP is PACKED into a ROOM, and empty then: how many sides of its BLOCKS are in air. -2; -6: not so many"
            + " PLACES, or BLOCKS ever; -7: the HEAP is empty, a ROW is not LAID, or the ROOM holds something.");
        IceTrade t = with(ROOM, 2, 2, 1);
        due("an empty HEAP, all LAID, nothing there", t.pack(0), -7);
        fillHeap(t, 5);
        due("five for four PLACES", t.pack(0), -6);
        due("the HEAP stays", t.count(14), 5);
        addRoom(t, ROOM, 5, 1, 1, -1);
        due("five for five", t.pack(1), 30 - 8);
        due("empty then", t.count(14), 0);
        due("again", t.pack(1), -7);
        fillHeap(t, 1);
        due("it holds something", t.pack(1), -7);
        due("ROOM 2", t.pack(2), -2);
        due("ROOM -1", t.pack(-1), -2);
        due("one", t.pack(0), 6);
        blocksEver();
    }

    private static void blocksEver() {
        IceTrade t = with(ROOM, 6, 6, 5);
        addRoom(t, ROOM, 6, 6, 4, -1);
        addRoom(t, ROOM, 3, 1, 1, -1);
        for (int b = 0; b < 298; b++) {
            t.cut(b / 180, b % 180, PLAIN, 1000);
        }
        fillHeap(t, 3);
        due("the 301st among them", t.pack(2), -6);
        due("status", t.status(), -6);
        t.take(0, 100);
        due("those that are TAKEN count", t.pack(2), -6);
        t.image(0);
        due("no BLOCK", t.count(8), 298);
        due("299", t.cut(2, 0, PLAIN, 1000), 298);
        due("300", t.cut(2, 1, PLAIN, 1000), 299);
        due("301", t.cut(2, 2, PLAIN, 1000), -6);
        t.back(0);
        due("the HEAP stays", t.count(14), 3);
        due("298 again", t.count(8), 298);
    }

    /** Each highest ROW by itself is the one that is not LAID, then all of them are. */
    private static void everyRowLaid() {
        for (int missing = 0; missing < 3; missing++) {
            for (int layers = 1; layers <= 2; layers++) {
                IceTrade t = with(ROOM, 2, 3, layers);
                fillHeap(t, 4);
                t.tear(0, layers - 1, missing);
                due("row " + missing + " of layer " + (layers - 1), t.pack(0), -7);
                t.lay(0, layers - 1, missing);
                due("LAID", t.pack(0), 16);
            }
        }
    }

    // Promises 30 and 31

    private static void imagesAndBack() {
        says("Kept as IMAGE k (0 .. 3): 0; -1.");
        IceTrade t = new IceTrade();
        due("image(-1)", t.image(-1), -1);
        due("image(0)", t.image(0), 0);
        due("image(3)", t.image(3), 0);
        due("image(4)", t.image(4), -1);
        says("As IMAGE k was: 0; -1; -2: it was not kept.");
        due("back(-1)", t.back(-1), -1);
        due("back(0)", t.back(0), 0);
        due("back(1)", t.back(1), -2);
        due("back(2)", t.back(2), -2);
        due("back(3)", t.back(3), 0);
        due("back(4)", t.back(4), -1);
        roomsAsTheyWere();
        blocksAsTheyWere();
        whatImagesDoNotHave();
    }

    /** The ROOM behind the IMAGE has the same number and another shape, kind, ROWS, water. */
    private static void roomsAsTheyWere() {
        IceTrade t = with(CART, 3, 2, 2);
        t.image(0);
        addRoom(t, INNER, 2, 3, 4, 0);
        tell(t, 0, 10);
        t.cut(1, 0, PLAIN, 50000);
        t.day();
        t.image(1);
        int standing = t.rooms(1, 9);
        due("STANDING", standing, 40 * 18);
        t.back(0);
        due("the number again", t.room(PIT, 1, 4, 5, -1), 1);
        due("no ROW is LAID", t.place(1, 0), -3);
        due("the highest", t.place(1, 19), -3);
        due("nothing LED", t.rooms(1, 8), 0);
        due("nothing STANDS", t.rooms(1, 9), 0);
        t.lay(1, 0, 0);
        due("nothing is there", t.place(1, 0), 0);
        t.put(1, 0, DRAIN);
        t.back(1);
        int[] want = {INNER, 2, 3, 4, 0};
        for (int what = 0; what < 5; what++) {
            due("rooms(1, " + what + ")", t.rooms(1, what), want[what]);
        }
        due("STANDING again", t.rooms(1, 9), standing);
        due("the last PLACE", t.place(1, 23), 0);
        due("one more", t.place(1, 24), -1);
        due("the BLOCK", t.place(1, 0), 10);
        due("WARMTH", t.rooms(1, 5), 40);
    }

    private static void blocksAsTheyWere() {
        IceTrade t = with(ROOM, 4, 1, 1);
        t.image(0);
        tell(t, 0, 10);
        t.day();
        t.cut(0, 2, CLEAR, 50000);
        t.cut(0, 3, SALT, 40000);
        t.day();
        t.image(1);
        int[] was = new int[10];
        for (int what = 0; what < 10; what++) {
            was[what] = t.block(0, what);
        }
        due("SPOILT", was[5], 1);
        t.back(0);
        t.cut(0, 0, PLAIN, 3000);
        t.day();
        due("BLOCK 0 is another", t.block(0, 0), PLAIN);
        due("not SPOILT", t.block(0, 5), -1);
        t.back(1);
        for (int what = 0; what < 10; what++) {
            due("block(0, " + what + ")", t.block(0, what), was[what]);
        }
        t.take(0, 2);
        t.back(1);
        due("TAKEN ones lie there again", t.rooms(0, 6), 2);
        due("nothing is SOLD", t.count(3), 0);
    }

    private static void whatImagesDoNotHave() {
        IceTrade t = with(PIT, 3, 1, 1);
        t.put(0, 1, STRAW);
        t.cut(0, 0, PLAIN, 50000);
        t.cut(0, 2, PLAIN, 50000);
        t.image(0);
        tell(t, 0, 20);
        t.terms(50, 100, 5000);
        t.price(PLAIN, 10);
        t.way(BOAT, 1);
        t.way(CART, 2);
        fillHeap(t, 3);
        t.foretell(3, 0);
        int then = t.foretold(-1, 3);
        t.send(0, 1);
        t.back(0);
        due("OUTSIDE", t.tenths(0), 20);
        due("PART and WET", t.block(0, 8), 5 * 150 + 75 + 100);
        due("STRETCHES", t.count(11), 2);
        due("days", t.count(12), 3);
        due("HEAP", t.count(14), 3);
        due("TAKEN", t.count(15), 1);
        due("list(0)", t.list(0), 0);
        due("sent(1)", t.sent(1), 50000 - 18 * (30 + 50 + 50));
        due("sent(2)", t.sent(2), 500);
        due("foretold", t.foretold(-1, 3), then);
        due("last", t.last(), -2);
        t.send(0, 1);
        due("PRICE", t.sent(2), 500);
        t.terms(0, 0, 1);
        t.back(0);
        due("the latest terms", t.block(0, 8), 5 * 150);
    }

    // Promises 32 to 34

    private static void books() {
        says("Of LINE i of THE BOOK what 0 the BLOCK, 1 ROOM, 2 PLACE, 3 what it weighed, 4 LOSS, 5 what was left. -2; -1"
            + " for another what.");
        IceTrade t = with(ROOM, 3, 1, 1);
        tell(t, 0, 10);
        t.cut(0, 2, PLAIN, 5000);
        due("ahead of any day()", t.line(0, 0), -2);
        t.day();
        int[] want = {0, 0, 2, 5000, 180, 4820};
        for (int what = 0; what < 6; what++) {
            due("line(0, " + what + ")", t.line(0, what), want[what]);
        }
        due("what -1", t.line(0, -1), -1);
        due("what 6", t.line(0, 6), -1);
        due("LINE -1", t.line(-1, 0), -2);
        due("LINE 1", t.line(1, 0), -2);
        alters();
        checks();
    }

    private static void alters() {
        says("That number is altered: by what mask has of bits (not 0): 0. -1 another what, mask 0; -2.");
        int[] masks = {1, 2, 3, -1, LEAST_INT, MOST_INT, 1 << 30};
        for (int mask : masks) {
            IceTrade t = with(ROOM, 3, 1, 1);
            tell(t, 0, 10);
            t.cut(0, 2, PLAIN, 5000);
            t.day();
            int[] want = {0, 0, 2, 5000, 180, 4820};
            for (int what = 0; what < 6; what++) {
                due("mask 0", t.alter(0, what, 0), -1);
                due("alter(0, " + what + ", " + mask + ")", t.alter(0, what, mask), 0);
                for (int other = 0; other < 6; other++) {
                    int now = other <= what ? want[other] ^ mask : want[other];
                    due("line(0, " + other + ")", t.line(0, other), now);
                }
            }
            due("what -1", t.alter(0, -1, mask), -1);
            due("what 6", t.alter(0, 6, mask), -1);
            due("LINE -1", t.alter(-1, 0, mask), -2);
            due("LINE 1", t.alter(1, 0, mask), -2);
            due("by the same again", t.alter(0, 3, mask), 0);
            due("as it was", t.line(0, 3), 5000);
            due("the BLOCK is what it was", t.block(0, 1), 4820);
        }
    }

    private static void checks() {
        says("THE BOOK against the day as it was: NONE if all of its LINES are right, else the first that isn't. -7: there"
            + " is no BOOK.");
        IceTrade t = with(ROOM, 5, 1, 1);
        due("ahead of any day()", t.check(), -7);
        t.foretell(5, 0);
        due("foretell() makes none", t.check(), -7);
        t.day();
        due("without LINES", t.check(), -1);
        tell(t, 1, 10);
        for (int p = 0; p < 5; p += 2) {
            t.cut(0, p, PLAIN, 5000);
        }
        t.day();
        due("right", t.check(), -1);
        for (int what = 0; what < 6; what++) {
            for (int bit = 0; bit < 32; bit += 31) {
                t.alter(2, what, 1 << bit);
                due("part " + what + " of the last, bit " + bit, t.check(), 2);
                t.alter(0, what, 1 << bit);
                due("and of the first", t.check(), 0);
                t.alter(0, what, 1 << bit);
                t.alter(2, what, 1 << bit);
                due("right again", t.check(), -1);
            }
        }
        t.alter(1, 4, 1);
        t.alter(1, 5, 1);
        due("two wrongs in one LINE", t.check(), 1);
        t.alter(2, 0, 4);
        t.take(0, 2);
        t.day();
        due("one LINE of the next day", t.count(13), 1);
        due("it is right, whatever was altered ahead of it", t.check(), -1);
        t.alter(0, 5, 1);
        due("wrong", t.check(), 0);
        t.image(0);
        due("image() leaves it", t.check(), 0);
        t.back(0);
        due("back() makes it empty", t.check(), -7);
        t.day();
        due("a BOOK again", t.check(), -1);
        goTo(t, 199);
        t.alter(0, 5, 1);
        int lines = t.count(13);
        t.day();
        due("a REFUSED day() leaves it", t.check(), lines == 0 ? -1 : 0);
    }
}
