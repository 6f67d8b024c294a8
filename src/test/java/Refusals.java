import java.util.ArrayList;
import java.util.List;

/** The paragraph REFUSED: which number comes first, that nothing but status() changes, and what status() tells then. */
public final class Refusals extends Bounds {
    /** Made anew for each look, as an object is good for 512 calls. */
    private interface Setting {
        void on(IceTrade t);
    }

    private interface Call {
        int on(IceTrade t);
    }

    public static void main(String[] args) {
        numbersThatCantBe();
        notAsThingsAre();
        firstInThatOrder();
        roomAlone();
        changesNothing();
        statusOfEachCall();
        askingCallsLeaveIt();
        end();
    }

    // "-1 a number that can't be; -2 there is none such"

    private static void numbersThatCantBe() {
        says("REFUSED: -1 a number that can't be; -2 there is none such");
        int[] far = {LEAST_INT, LEAST_INT + 1, -1000, 1000, MOST_INT - 1, MOST_INT};
        for (int n : far) {
            farNumbersOfRooms(n);
            farNumbersOfPlaces(n);
            farNumbersOfTrade(n);
            farNumbersOfBooks(n);
        }
    }

    private static IceTrade oneBlock() {
        IceTrade t = with(ROOM, 2, 2, 2);
        tell(t, 0, 10);
        t.cut(0, 0, PLAIN, 5000);
        return t;
    }

    private static void farNumbersOfRooms(int n) {
        IceTrade t = oneBlock();
        due("room(" + n + ", ..)", t.room(n, 1, 1, 1, -1), -1);
        due("width " + n, t.room(ROOM, n, 1, 1, -1), -1);
        due("rows " + n, t.room(ROOM, 1, n, 1, -1), -1);
        due("layers " + n, t.room(ROOM, 1, 1, n, -1), -1);
        due("in " + n, t.room(ROOM, 1, 1, 1, n), -1);
        due("INNER in " + n, t.room(INNER, 1, 1, 1, n), -1);
        due("rooms(" + n + ", 0)", t.rooms(n, 0), -2);
        due("rooms(0, " + n + ")", t.rooms(0, n), -1);
        due("lay(" + n + ", 0, 0)", t.lay(n, 0, 0), -2);
        due("layer " + n, t.lay(0, n, 0), -1);
        due("row " + n, t.lay(0, 0, n), -1);
        due("tear(" + n + ", 0, 0)", t.tear(n, 0, 0), -2);
        due("layer " + n, t.tear(0, n, 0), -1);
        due("row " + n, t.tear(0, 0, n), -1);
        due("ROOMS", t.count(10), 1);
    }

    private static void farNumbersOfPlaces(int n) {
        IceTrade t = oneBlock();
        due("cut(" + n + ", ..)", t.cut(n, 1, PLAIN, 5000), -2);
        due("cut at " + n, t.cut(0, n, PLAIN, 5000), -1);
        due("cut of kind " + n, t.cut(0, 1, n, 5000), -1);
        due("cut of grams " + n, t.cut(0, 1, PLAIN, n == 1000 ? 999 : n), -1);
        due("put(" + n + ", ..)", t.put(n, 1, STRAW), -2);
        due("put at " + n, t.put(0, n, STRAW), -1);
        due("put what " + n, t.put(0, 1, n), -1);
        due("clear(" + n + ", 0)", t.clear(n, 0), -2);
        due("clear at " + n, t.clear(0, n), -1);
        due("place(" + n + ", 0)", t.place(n, 0), -2);
        due("place(0, " + n + ")", t.place(0, n), -1);
        due("block(" + n + ", 0)", t.block(n, 0), -2);
        due("block(0, " + n + ")", t.block(0, n), -1);
        due("BLOCKS", t.count(8), 1);
        due("PLACE 1", t.place(0, 1), 0);
    }

    private static void farNumbersOfTrade(int n) {
        IceTrade t = oneBlock();
        due("warm(" + n + ", 0)", t.warm(n, 0), -1);
        due("tenths(" + n + ")", t.tenths(n), -1000);
        due("part " + n, t.terms(n, 0, 1), -1);
        due("wet " + n, t.terms(0, n == 1000 ? 10001 : n, 1), -1);
        due("least " + n, t.terms(0, 0, n == 1000 ? 1000001 : n), -1);
        due("count(" + n + ")", t.count(n), -1);
        due("next(" + n + ")", t.next(n), -2);
        due("take(" + n + ", 1)", t.take(n, 1), -2);
        due("take(0, " + n + ")", t.take(0, n), -1);
        due("way of kind " + n, t.way(n, 1), -1);
        due("way of days " + n, t.way(BOAT, n), -1);
        due("comes(" + n + ", 1)", t.comes(n, 1), -2);
        due("comes(0, " + n + ")", t.comes(0, n), -1);
        due("send(" + n + ", 1)", t.send(n, 1), -2);
        due("send(0, " + n + ")", t.send(0, n == 1000 ? 100000001 : n), -1);
        due("sent(" + n + ")", t.sent(n), -1);
        due("list(" + n + ")", t.list(n), -1);
        due("price of kind " + n, t.price(n, 1), -1);
        due("price of cents " + n, t.price(PLAIN, n == 1000 ? 5001 : n), -1);
        due("LOSS", t.block(0, 8), 180);
        due("BLOCKS", t.count(9), 1);
    }

    private static void farNumbersOfBooks(int n) {
        IceTrade t = oneBlock();
        t.day();
        t.foretell(2, 0);
        due("foretell(" + n + ", 0)", t.foretell(n, 0), -1);
        due("foretell(1, " + n + ")", t.foretell(1, n), -1);
        due("foretold(" + n + ", 0)", t.foretold(n, 0), -1);
        due("foretold(0, " + n + ")", t.foretold(0, n), -1);
        due("foretold(-1, " + n + ")", t.foretold(-1, n), -1);
        due("heap of kind " + n, t.heap(n, 1000), -1);
        due("heap of grams " + n, t.heap(PLAIN, n == 1000 ? 999 : n), -1);
        due("pack(" + n + ")", t.pack(n), -2);
        due("image(" + n + ")", t.image(n), -1);
        due("back(" + n + ")", t.back(n), -1);
        due("line(" + n + ", 0)", t.line(n, 0), -2);
        due("line(0, " + n + ")", t.line(0, n), -1);
        due("alter(" + n + ", 0, 1)", t.alter(n, 0, 1), -2);
        due("alter(0, " + n + ", 1)", t.alter(0, n, 1), -1);
        due("any mask", t.alter(0, 4, n), 0);
        due("the LOSS in THE BOOK", t.line(0, 4), 180 ^ n);
    }

    // "-3 the ROW is not LAID; .. -7 not as things are."

    /** Each is REFUSED, and is not any more when the one thing is mended. */
    private static void notAsThingsAre() {
        says("-3 the ROW is not LAID; -4 the PLACE is not free; -5 nothing beneath; -6 no room, or too many; -7 not as things"
            + " are.");
        IceTrade t = new IceTrade();
        t.room(ROOM, 1, 1, 2, -1);
        due("the ROW is not LAID", t.put(0, 0, STRAW), -3);
        t.lay(0, 0, 0);
        due("it is", t.put(0, 0, STRAW), 0);
        due("the PLACE is not free", t.cut(0, 0, PLAIN, 1000), -4);
        t.clear(0, 0);
        due("it is", t.cut(0, 0, PLAIN, 1000), 0);
        due("the ROW is LAID already", t.lay(0, 0, 0), -7);
        t.lay(0, 1, 0);
        due("something lies there", t.pack(0), -7);
        t.take(0, 1);
        due("nothing beneath", t.cut(0, 1, PLAIN, 1000), -5);
        t.put(0, 0, STRAW);
        due("something is", t.cut(0, 1, PLAIN, 1000), 1);
        due("too many", t.take(0, 2), -6);
        due("not too many", t.take(0, 1), 1000);
        fillHeap(t, 3);
        t.clear(0, 0);
        due("no room", t.pack(0), -6);
        addRoom(t, ROOM, 3, 1, 1, -1);
        due("room", t.pack(1), 14);
        for (int d = 0; d < 199; d++) {
            due("day " + d, Math.min(t.day(), 0), 0);
        }
        due("no more of them", t.day(), -7);
    }

    // "The first of these in that order"

    private static void firstInThatOrder() {
        says("The first of these in that order");
        orderOfRooms();
        orderOfPuts();
        orderOfPutsWhereThreeHundredAre();
        orderOfTrade();
        orderOfPacks();
        orderOfBooks();
    }

    private static void orderOfRooms() {
        IceTrade t = new IceTrade();
        for (int number = 0; number < 8; number++) {
            addRoom(t, number == 1 ? CART : ROOM, 1, 1, 1, -1);
        }
        due("room: -1 ahead of -6, kind", t.room(6, 1, 1, 1, -1), -1);
        due("width", t.room(ROOM, 7, 1, 1, -1), -1);
        due("rows", t.room(ROOM, 1, 0, 1, -1), -1);
        due("layers", t.room(ROOM, 1, 1, 6, -1), -1);
        due("in", t.room(ROOM, 1, 1, 1, 0), -1);
        due("in of an INNER one", t.room(INNER, 1, 1, 1, 8), -1);
        due("-6", t.room(INNER, 1, 1, 1, 7), -6);
        due("rooms: -1 ahead of -2", t.rooms(8, 12), -1);
        due("-2", t.rooms(8, 11), -2);
        due("lay: -1 ahead of -7, layer", t.lay(0, 1, 0), -1);
        due("row", t.lay(0, 0, 1), -1);
        due("-7", t.lay(0, 0, 0), -7);
        t.tear(0, 0, 0);
        due("tear: -1 ahead of -3, layer", t.tear(0, 1, 0), -1);
        due("row", t.tear(0, 0, -1), -1);
        due("-3", t.tear(0, 0, 0), -3);
    }

    /** A ROOM of 2 x 1 x 3 whose BLOCK in PLACE 0 is GONE beneath one in PLACE 2; layer 2 is not LAID. */
    private static IceTrade hanging(int kind) {
        IceTrade t = new IceTrade();
        t.room(kind, 2, 1, 3, -1);
        t.lay(0, 0, 0);
        t.lay(0, 1, 0);
        tell(t, 0, 10);
        t.cut(0, 0, PLAIN, 1000);
        t.cut(0, 2, PLAIN, 90000);
        t.day();
        return t;
    }

    private static void orderOfPuts() {
        IceTrade t = hanging(CART);
        due("cut: -1 ahead of -2, kind", t.cut(1, 0, 3, 1000), -1);
        due("grams", t.cut(1, 0, PLAIN, 999), -1);
        due("-1 ahead of -3, kind", t.cut(0, 4, -1, 1000), -1);
        due("grams", t.cut(0, 4, PLAIN, 1000001), -1);
        due("PLACE", t.cut(0, 6, PLAIN, 1000), -1);
        due("-1 ahead of -4", t.cut(0, 2, 3, 1000), -1);
        due("-1 ahead of -5", t.cut(0, 3, 3, 1000), -1);
        due("-3 ahead of -5", t.cut(0, 5, PLAIN, 1000), -3);
        due("-4 ahead of -5", t.cut(0, 2, PLAIN, 1000), -4);
        due("-5", t.cut(0, 3, PLAIN, 1000), -5);
        due("put: -1 ahead of -2", t.put(1, 0, 2), -1);
        due("-1 ahead of -3", t.put(0, 4, 2), -1);
        due("-1 ahead of -4", t.put(0, 2, -1), -1);
        due("-1 ahead of -5", t.put(0, 3, -1), -1);
        due("-1 ahead of -7", t.put(0, 6, STRAW), -1);
        due("-2 ahead of -7", t.put(1, 0, STRAW), -2);
        due("-3 ahead of -5 and -7", t.put(0, 5, STRAW), -3);
        due("-4 ahead of -5 and -7", t.put(0, 2, STRAW), -4);
        due("-5 ahead of -7", t.put(0, 3, STRAW), -5);
        due("-7", t.put(0, 0, STRAW), -7);
        due("-3 ahead of -5, a DRAIN", t.put(0, 5, DRAIN), -3);
        due("-4 ahead of -5, a DRAIN", t.put(0, 2, DRAIN), -4);
        due("clear: -1 ahead of -3", t.clear(0, 6), -1);
        due("-3 ahead of -7", t.clear(0, 4), -3);
        due("-7", t.clear(0, 0), -7);
        due("place: -1 ahead of -3", t.place(0, 6), -1);
        due("-3", t.place(0, 4), -3);
        due("block: -1 ahead of -2", t.block(2, 10), -1);
        due("-2", t.block(2, 9), -2);
    }

    private static void orderOfPutsWhereThreeHundredAre() {
        IceTrade t = with(ROOM, 6, 6, 5);
        t.room(ROOM, 6, 6, 5, -1);
        for (int row = 0; row < 24; row++) {
            t.lay(1, row / 6, row % 6);
        }
        for (int b = 0; b < 300; b++) {
            t.cut(b / 180, b % 180, PLAIN, 1000);
        }
        due("cut: -1 ahead of -6, kind", t.cut(1, 120, 3, 1000), -1);
        due("grams", t.cut(1, 120, PLAIN, 999), -1);
        due("PLACE", t.cut(1, 180, PLAIN, 1000), -1);
        due("-2 ahead of -6", t.cut(2, 0, PLAIN, 1000), -2);
        due("-3 ahead of -6", t.cut(1, 144, PLAIN, 1000), -3);
        due("-4 ahead of -6", t.cut(1, 119, PLAIN, 1000), -4);
        t.put(1, 120, DRAIN);
        t.lay(1, 4, 2);
        due("-5 ahead of -6", t.cut(1, 156, PLAIN, 1000), -5);
        due("-6", t.cut(1, 121, PLAIN, 1000), -6);
        due("an empty HEAP is not too many", t.pack(1), -7);
        t.heap(PLAIN, 1000);
        due("pack: -2 ahead of -6", t.pack(2), -2);
        due("-6 ahead of -7", t.pack(1), -6);
    }

    private static void orderOfTrade() {
        IceTrade t = oneBlock();
        due("take: -1 ahead of -2", t.take(1, 0), -1);
        due("take: -1 ahead of -2", t.take(1, 301), -1);
        due("-2 ahead of -6", t.take(1, 300), -2);
        due("-6", t.take(0, 300), -6);
        due("comes: -1 ahead of -2", t.comes(1, -1), -1);
        due("comes: -1 ahead of -2", t.comes(1, 301), -1);
        due("-2 ahead of -6", t.comes(1, 300), -2);
        due("-6", t.comes(0, 300), -6);
        due("send: -1 ahead of -2", t.send(1, 0), -1);
        due("send: -1 ahead of -2", t.send(1, 100000001), -1);
        due("-2 ahead of -6", t.send(1, 100000000), -2);
        due("-6", t.send(0, 100000000), -6);
        for (int n = 0; n < 6; n++) {
            t.way(CART, 1);
        }
        due("way: -1 ahead of -6, kind", t.way(PIT, 1), -1);
        due("days", t.way(CART, 21), -1);
        due("-6", t.way(CART, 20), -6);
        fillHeap(t, 30);
        due("heap: -1 ahead of -6, kind", t.heap(3, 1000), -1);
        due("grams", t.heap(PLAIN, 999), -1);
        due("-6", t.heap(PLAIN, 1000), -6);
    }

    private static void orderOfPacks() {
        IceTrade t = new IceTrade();
        t.room(ROOM, 2, 1, 1, -1);
        due("-2 ahead of -7: an empty HEAP", t.pack(1), -2);
        due("-7", t.pack(0), -7);
        fillHeap(t, 3);
        due("-2 ahead of -6", t.pack(1), -2);
        due("-6 ahead of -7: not LAID", t.pack(0), -6);
        t.lay(0, 0, 0);
        t.put(0, 0, DRAIN);
        due("-6 ahead of -7: it holds something", t.pack(0), -6);
        t.clear(0, 0);
        due("-6", t.pack(0), -6);
    }

    private static void orderOfBooks() {
        IceTrade t = oneBlock();
        t.day();
        due("line: -1 ahead of -2", t.line(1, 6), -1);
        due("-2", t.line(1, 5), -2);
        due("alter: -1 ahead of -2, what", t.alter(1, 6, 1), -1);
        due("mask", t.alter(1, 5, 0), -1);
        due("-2", t.alter(1, 5, 1), -2);
        due("back: -1 ahead of -2", t.back(4), -1);
        due("-2", t.back(3), -2);
    }

    // "(a PLACE, layer, row is looked at where there is the ROOM alone)"

    private static void roomAlone() {
        says("(a PLACE, layer, row is looked at where there is the ROOM alone)");
        IceTrade t = with(ROOM, 2, 1, 1);
        int[] noRooms = {LEAST_INT, -1, 1, 7, 8, MOST_INT};
        int[] nowhere = {LEAST_INT, -1, 180, MOST_INT};
        for (int none : noRooms) {
            for (int bad : nowhere) {
                String where = "(" + none + ", " + bad + ")";
                due("lay, layer " + where, t.lay(none, bad, 0), -2);
                due("lay, row " + where, t.lay(none, 0, bad), -2);
                due("tear, layer " + where, t.tear(none, bad, 0), -2);
                due("tear, row " + where, t.tear(none, 0, bad), -2);
                due("cut " + where, t.cut(none, bad, PLAIN, 1000), -2);
                due("cut of no kind " + where, t.cut(none, bad, 3, 1000), -1);
                due("cut of few grams " + where, t.cut(none, bad, PLAIN, 999), -1);
                due("put " + where, t.put(none, bad, DRAIN), -2);
                due("put what 2 " + where, t.put(none, bad, 2), -1);
                due("clear " + where, t.clear(none, bad), -2);
                due("place " + where, t.place(none, bad), -2);
            }
        }
        due("where there is the ROOM", t.place(0, 2), -1);
    }

    // "What is REFUSED changes nothing but status()."

    private static void changesNothing() {
        says("What is REFUSED changes nothing but status().");
        refusedOfRooms();
        refusedOfPlaces();
        refusedOfTrade();
        refusedOfBooks();
        refusedWhereAllIsFull();
    }

    /** A trade with something of all that there is; TODAY is 1. */
    private static void busy(IceTrade t) {
        tell(t, 0, 20);
        tell(t, 1, 35);
        t.warm(3, NOT_A_NUMBER);
        t.terms(30, 150, 900);
        addRoom(t, ROOM, 3, 1, 2, -1);
        t.room(PIT, 2, 2, 1, -1);
        t.lay(1, 0, 0);
        addRoom(t, CART, 2, 1, 1, -1);
        addRoom(t, ROOM, 2, 1, 1, -1);
        addRoom(t, BOAT, 1, 1, 1, -1);
        t.cut(0, 0, CLEAR, 50000);
        t.cut(0, 1, SALT, 40000);
        t.put(0, 2, STRAW);
        t.cut(0, 3, PLAIN, 30000);
        t.put(0, 5, DRAIN);
        t.cut(1, 0, PLAIN, 20000);
        t.cut(2, 0, PLAIN, 10000);
        t.put(2, 1, DRAIN);
        t.price(PLAIN, 100);
        t.price(CLEAR, 300);
        t.price(SALT, 50);
        t.way(BOAT, 2);
        t.image(1);
        t.day();
        t.send(0, 1);
        t.way(CART, 1);
        t.alter(0, 4, 1);
        t.foretell(3, 1);
        t.heap(SALT, 7000);
        t.heap(CLEAR, 8000);
    }

    /** All that can be asked of a trade as busy() leaves it, and then what the next changes come to. */
    private static List<Integer> look(IceTrade t) {
        List<Integer> seen = new ArrayList<>();
        askCounts(t, seen);
        for (int room = 0; room < Math.min(5, t.count(10)); room++) {
            for (int what = 0; what < 12; what++) {
                seen.add(t.rooms(room, what));
            }
            seen.add(t.next(room));
            seen.add(t.comes(room, 1));
            for (int p = 0; p < 6; p++) {
                seen.add(t.place(room, p));
            }
        }
        for (int block = 0; block < Math.min(5, t.count(8)); block++) {
            for (int what = 0; what < 10; what++) {
                seen.add(t.block(block, what));
            }
        }
        for (int day = 0; day < 6; day++) {
            seen.add(t.tenths(day));
        }
        askBooks(t, seen);
        changeAll(t, seen);
        return seen;
    }

    private static void askCounts(IceTrade t, List<Integer> seen) {
        for (int what = 0; what < 16; what++) {
            seen.add(t.count(what));
        }
    }

    private static void askBooks(IceTrade t, List<Integer> seen) {
        for (int i = 0; i < 3; i++) {
            seen.add(t.sent(i));
            seen.add(t.list(i));
            seen.add(t.foretold(-1, i));
            seen.add(t.foretold(0, i));
            for (int what = 0; what < 6; what++) {
                seen.add(t.line(i, what));
            }
        }
        seen.add(t.foretold(5, 0));
        seen.add(t.last());
        seen.add(t.check());
    }

    /** PRICES, the HEAP, LEAST and the IMAGES can't be asked for: they are seen by what comes of them. */
    private static void changeAll(IceTrade t, List<Integer> seen) {
        seen.add(t.pack(3));
        seen.add(t.block(5, 0));
        seen.add(t.block(5, 1));
        seen.add(t.block(6, 0));
        seen.add(t.block(6, 1));
        seen.add(t.send(0, 60000));
        seen.add(t.sent(2));
        seen.add(t.day());
        seen.add(t.count(5));
        for (int k = 0; k < 4; k++) {
            seen.add(t.back(k));
            askCounts(t, seen);
        }
    }

    private static void refused(String name, Setting setting, Call call, int why) {
        IceTrade t = new IceTrade();
        setting.on(t);
        due(name, call.on(t), why);
        due("status of " + name, t.status(), why);
        IceTrade twin = new IceTrade();
        setting.on(twin);
        dueAll("behind " + name, look(t), look(twin));
    }

    private static void refused(String name, Call call, int why) {
        refused(name, Refusals::busy, call, why);
    }

    private static void refusedOfRooms() {
        refused("room of no kind", t -> t.room(6, 1, 1, 1, -1), -1);
        refused("room in none", t -> t.room(INNER, 1, 1, 1, 5), -1);
        refused("lay of no layer", t -> t.lay(1, 1, 0), -1);
        refused("lay in no ROOM", t -> t.lay(5, 0, 0), -2);
        refused("lay again", t -> t.lay(1, 0, 0), -7);
        refused("lay above none", Refusals::halfLaid, t -> t.lay(3, 1, 1), -7);
        refused("tear of no row", t -> t.tear(1, 0, 2), -1);
        refused("tear in no ROOM", t -> t.tear(-1, 0, 0), -2);
        refused("tear of one not LAID", t -> t.tear(1, 0, 1), -3);
        refused("tear of one that holds something", t -> t.tear(1, 0, 0), -7);
        refused("tear beneath one that is LAID", Refusals::halfLaid, t -> t.tear(3, 0, 0), -7);
    }

    /** A ROOM 3 in which the second row of layer 1 has nothing to be LAID on. */
    private static void halfLaid(IceTrade t) {
        for (int number = 0; number < 4; number++) {
            t.room(ROOM, 1, 2, 2, -1);
            t.lay(number, 0, 0);
            t.lay(number, 1, 0);
        }
    }

    private static void refusedOfPlaces() {
        refused("cut of no kind", t -> t.cut(3, 0, 3, 1000), -1);
        refused("cut of too many grams", t -> t.cut(3, 0, PLAIN, 1000001), -1);
        refused("cut at no PLACE", t -> t.cut(3, 2, PLAIN, 1000), -1);
        refused("cut in no ROOM", t -> t.cut(5, 0, PLAIN, 1000), -2);
        refused("cut where no ROW is LAID", t -> t.cut(1, 2, PLAIN, 1000), -3);
        refused("cut where one lies", t -> t.cut(0, 0, PLAIN, 1000), -4);
        refused("cut on STRAW that is not there", t -> t.cut(0, 4, PLAIN, 1000), -5);
        refused("put of no such thing", t -> t.put(3, 0, 2), -1);
        refused("put at no PLACE", t -> t.put(3, 2, DRAIN), -1);
        refused("put in no ROOM", t -> t.put(5, 0, DRAIN), -2);
        refused("put where no ROW is LAID", t -> t.put(1, 3, STRAW), -3);
        refused("put where one lies", t -> t.put(0, 2, DRAIN), -4);
        refused("put on nothing", t -> t.put(0, 4, STRAW), -5);
        refused("STRAW on a BOAT of one layer", t -> t.put(4, 0, STRAW), -7);
        refused("clear at no PLACE", t -> t.clear(0, 6), -1);
        refused("clear in no ROOM", t -> t.clear(5, 0), -2);
        refused("clear where no ROW is LAID", t -> t.clear(1, 2), -3);
        refused("clear of nothing", t -> t.clear(3, 0), -7);
        refused("clear of a BLOCK", t -> t.clear(1, 0), -7);
        refused("clear beneath a DRAIN", t -> t.clear(0, 2), -7);
    }

    private static void refusedOfTrade() {
        refused("warm of no day", t -> t.warm(200, 0), -1);
        refused("warm above 60", t -> t.warm(1, bits(60.5f)), -1);
        refused("warm without end", t -> t.warm(1, bits(Float.NEGATIVE_INFINITY)), -1);
        refused("terms with PART 101", t -> t.terms(101, 1, 1), -1);
        refused("terms with WET 10001", t -> t.terms(1, 10001, 1), -1);
        refused("terms with LEAST 0", t -> t.terms(1, 1, 0), -1);
        refused("take of 0", t -> t.take(0, 0), -1);
        refused("take from no ROOM", t -> t.take(5, 1), -2);
        refused("take of too many", t -> t.take(1, 2), -6);
        refused("way of no kind", t -> t.way(ROOM, 1), -1);
        refused("way of 21 days", t -> t.way(CART, 21), -1);
        refused("send of 0", t -> t.send(0, 0), -1);
        refused("send from no ROOM", t -> t.send(5, 1), -2);
        refused("price of no kind", t -> t.price(3, 1), -1);
        refused("price of 5001", t -> t.price(PLAIN, 5001), -1);
        shortChangesWhatIsSent();
    }

    /** The one thing that a REFUSED call changes: sent() tells of it, as promise 22 has it. */
    private static void shortChangesWhatIsSent() {
        IceTrade t = new IceTrade();
        busy(t);
        due("send of too much", t.send(1, 20001), -6);
        due("status", t.status(), -6);
        IceTrade twin = new IceTrade();
        busy(twin);
        int[] parts = {20001 - twin.comes(1, 1), 0, 0};
        for (int what = 0; what < 3; what++) {
            due("sent(" + what + ")", t.sent(what), parts[what]);
        }
        due("list(0)", t.list(0), twin.list(0));
        due("SOLD", t.count(3), twin.count(3));
        due("TAKEN", t.count(15), twin.count(15));
        due("BLOCKS", t.rooms(1, 6), 1);
        List<Integer> seen = new ArrayList<>();
        List<Integer> want = new ArrayList<>();
        changeAll(t, seen);
        changeAll(twin, want);
        dueAll("behind it", seen, want);
    }

    private static void refusedOfBooks() {
        refused("foretell of 0 days", t -> t.foretell(0, 0), -1);
        refused("foretell of 201 days", t -> t.foretell(201, 0), -1);
        refused("foretell by 200 back", t -> t.foretell(1, 200), -1);
        refused("heap of no kind", t -> t.heap(3, 1000), -1);
        refused("heap of few grams", t -> t.heap(PLAIN, 999), -1);
        refused("pack into no ROOM", t -> t.pack(5), -2);
        refused("pack into a small ROOM", t -> t.pack(4), -6);
        refused("pack where a ROW is not LAID", t -> t.pack(1), -7);
        refused("pack where something lies", t -> t.pack(0), -7);
        refused("pack of nothing", Refusals::halfLaid, t -> t.pack(0), -7);
        refused("image 4", t -> t.image(4), -1);
        refused("image -1", t -> t.image(-1), -1);
        refused("back 4", t -> t.back(4), -1);
        refused("back to none", t -> t.back(0), -2);
        refused("alter of part 6", t -> t.alter(0, 6, 1), -1);
        refused("alter by nothing", t -> t.alter(0, 5, 0), -1);
        refused("alter of no LINE", t -> t.alter(5, 0, 1), -2);
    }

    private static void refusedWhereAllIsFull() {
        refused("a ninth ROOM", t -> {
            busy(t);
            for (int number = 5; number < 8; number++) {
                t.room(ROOM, 1, 1, 1, -1);
            }
        }, t -> t.room(CART, 2, 2, 2, -1), -6);
        refused("a seventh STRETCH", t -> {
            busy(t);
            for (int n = 2; n < 6; n++) {
                t.way(BOAT, 0);
            }
        }, t -> t.way(CART, 3), -6);
        refused("a 31st of the HEAP", t -> {
            busy(t);
            for (int n = 2; n < 30; n++) {
                t.heap(n % 3, 2000 + n);
            }
        }, t -> t.heap(SALT, 9000), -6);
        refused("a day behind 199", Refusals::lastDay, t -> t.day(), -7);
        refusedWhereThreeHundredAre();
    }

    private static void lastDay(IceTrade t) {
        addRoom(t, ROOM, 1, 1, 1, -1);
        t.cut(0, 0, PLAIN, 900000);
        tell(t, 0, 1);
        goTo(t, 199);
        t.alter(0, 3, 1);
    }

    /** Too many calls are behind such a trade for a whole look at it. */
    private static void refusedWhereThreeHundredAre() {
        IceTrade t = with(ROOM, 6, 6, 5);
        addRoom(t, ROOM, 6, 5, 4, -1);
        addRoom(t, ROOM, 2, 1, 1, -1);
        for (int b = 0; b < 299; b++) {
            t.cut(b / 180, b % 180, PLAIN, 1000);
        }
        t.heap(SALT, 5000);
        t.heap(CLEAR, 6000);
        due("pack of the 300th and 301st", t.pack(2), -6);
        due("the HEAP", t.count(14), 2);
        due("BLOCKS ever", t.count(8), 299);
        due("CUT", t.count(1), 299000);
        due("PLACE 0", t.place(2, 0), 0);
        due("the 300th", t.cut(2, 0, PLAIN, 1000), 299);
        due("the 301st", t.cut(2, 1, PLAIN, 1000), -6);
        due("BLOCKS ever", t.count(8), 300);
        due("CUT", t.count(1), 300000);
        due("PLACE 1", t.place(2, 1), 0);
        due("in ROOMS", t.count(9), 300);
    }

    // status()

    private static void statusOfEachCall() {
        says("What the latest call of those that may be REFUSED was REFUSED by; 0 if it was not, or ahead of any.");
        due("ahead of any", new IceTrade().status(), 0);
        grants("room", t -> t.room(ROOM, 1, 1, 1, -1), 5);
        grants("lay", t -> t.lay(1, 0, 1), 0);
        grants("tear", t -> t.tear(3, 0, 0), 0);
        grants("cut", t -> t.cut(3, 0, PLAIN, 1000), 5);
        grants("put", t -> t.put(3, 0, STRAW), 0);
        grants("clear", t -> t.clear(0, 5), 0);
        grants("warm", t -> t.warm(1, 0), 0);
        grants("warm, no number", t -> t.warm(1, NOT_A_NUMBER), 0);
        grants("terms", t -> t.terms(1, 1, 1), 0);
        grants("day", t -> Math.min(t.day(), 0), 0);
        grants("take", t -> Math.min(t.take(1, 1), 1), 1);
        grants("way", t -> t.way(CART, 1), 3);
        grants("send", t -> t.send(1, 1), 1);
        grants("price", t -> t.price(PLAIN, 1), 0);
        grants("foretell", t -> t.foretell(2, 1), 2);
        grants("heap", t -> t.heap(PLAIN, 1000), 3);
        grants("pack", t -> t.pack(3), 10);
        grants("image", t -> t.image(0), 0);
        grants("back", t -> t.back(1), 0);
        grants("alter", t -> t.alter(0, 0, 1), 0);
        IceTrade t = new IceTrade();
        busy(t);
        due("-7", t.lay(1, 0, 0), -7);
        due("-2", t.pack(5), -2);
        due("the latest", t.status(), -2);
        due("asked again", t.status(), -2);
        homeIsNone();
    }

    private static void grants(String name, Call call, int answer) {
        IceTrade t = new IceTrade();
        busy(t);
        due("REFUSED ahead of " + name, t.lay(9, 0, 0), -2);
        due(name, call.on(t), answer);
        due("status of " + name, t.status(), 0);
    }

    /** The document has no number by which home() could be REFUSED. */
    private static void homeIsNone() {
        IceTrade t = new IceTrade();
        busy(t);
        t.lay(1, 0, 0);
        due("home()", t.home(), 2);
        due("status behind home()", t.status(), -7);
    }

    private static void askingCallsLeaveIt() {
        says("(Asking calls leave it: rooms, place, block, tenths, count, next, comes, sent, list, foretold, last, line,"
            + " check, status.)");
        Call[] asking = {
            t -> t.rooms(0, 5), t -> t.rooms(5, 0), t -> t.rooms(0, 12), t -> t.place(0, 0), t -> t.place(5, 0),
            t -> t.place(0, 6), t -> t.place(1, 2), t -> t.block(0, 1), t -> t.block(9, 1), t -> t.block(0, 10),
            t -> t.tenths(0), t -> t.tenths(200), t -> t.count(0), t -> t.count(16), t -> t.next(0), t -> t.next(3),
            t -> t.next(5), t -> t.comes(0, 1), t -> t.comes(0, -1), t -> t.comes(5, 1), t -> t.comes(0, 9),
            t -> t.sent(0), t -> t.sent(3), t -> t.list(0), t -> t.list(9), t -> t.foretold(0, 0),
            t -> t.foretold(0, 9), t -> t.last(), t -> t.line(0, 0), t -> t.line(9, 0), t -> t.line(0, 6),
            t -> t.check(), t -> t.status(),
        };
        for (int i = 0; i < asking.length; i++) {
            IceTrade t = new IceTrade();
            busy(t);
            asking[i].on(t);
            due("0 behind asking call " + i, t.status(), 0);
            t.lay(1, 0, 0);
            asking[i].on(t);
            due("-7 behind asking call " + i, t.status(), -7);
        }
        due("check() without a BOOK", new IceTrade().check(), -7);
        IceTrade none = new IceTrade();
        none.check();
        none.last();
        due("ahead of any", none.status(), 0);
    }
}
