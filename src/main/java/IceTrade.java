import java.util.Arrays;

/** A trade in ice: what is cut in January must be sold before it is water. */
public final class IceTrade {
    public static final int NONE = -1;

    private static final int BAD_NUMBER = -1;
    private static final int NO_SUCH = -2;
    private static final int NOT_LAID = -3;
    private static final int NOT_FREE = -4;
    private static final int NOTHING_BENEATH = -5;
    private static final int TOO_MANY = -6;
    private static final int NOT_NOW = -7;

    private static final int NO_TENTHS = -1000;
    private static final int SOME_LEFT = -2;

    private static final int CELLAR = 1;
    private static final int INNER = 2;
    private static final int BOAT = 3;
    private static final int CART = 4;
    private static final int PIT = 5;

    private static final int PLAIN = 0;
    private static final int CLEAR = 1;
    private static final int SALT = 2;

    // What a PLACE holds is kept as place() tells it.
    private static final int NOTHING = 0;
    private static final int STRAW = 1;
    private static final int DRAIN = 2;
    private static final int FIRST_BLOCK = 10;

    private static final int IN_AIR = 0;
    private static final int IN_STRAW = 1;
    private static final int SHUT = 2;
    private static final int SIDES = 6;

    private static final int LAST_DAY = 199;
    private static final int MOST_ROOMS = 8;
    private static final int MOST_WIDTH = 6;
    private static final int MOST_ROWS = 6;
    private static final int MOST_LAYERS = 5;
    private static final int MOST_PLACES = 180;
    private static final int MOST_BLOCKS = 300;
    private static final int LEAST_WEIGHT = 1000;
    private static final int MOST_WEIGHT = 1000000;
    private static final int MOST_TO_SEND = 100000000;
    private static final int MOST_CENTS = 5000;
    private static final int MOST_STRETCHES = 6;
    private static final int MOST_DAYS_OF_STRETCH = 20;
    private static final int MOST_FORETOLD = 200;
    private static final int MOST_IN_HEAP = 30;
    private static final int MOST_TRIED = 8;
    private static final int IMAGES = 4;
    private static final int LINE_PARTS = 6;

    private final Site now = new Site();
    /** What only would be is tried out here, so that all lies as it did. */
    private final Site spare = new Site();
    /** Made when they are first kept: most runs keep none. */
    private final Site[] images = new Site[IMAGES];
    private final Season season = new Season();
    private final Terms rules = new Terms();
    private final Route route = new Route();
    private final Sales sales = new Sales();
    private final Forecast forecast = new Forecast();
    private final Book book = new Book();
    private final Pile pile = new Pile();
    private final Packer packer = new Packer();
    private int refusedBy;

    public IceTrade() {
        refusedBy = 0;
    }

    public int room(int kind, int width, int rows, int layers, int in) {
        boolean sized = among(width, 1, MOST_WIDTH) && among(rows, 1, MOST_ROWS) && among(layers, 1, MOST_LAYERS);
        if (!sized || !among(kind, 0, PIT)) {
            return refuse(BAD_NUMBER);
        }
        boolean placed = kind == INNER ? now.roomAt(in) != null : in == NONE;
        if (!placed) {
            return refuse(BAD_NUMBER);
        }
        if (now.roomCount >= MOST_ROOMS) {
            return refuse(TOO_MANY);
        }
        return grant(now.addRoom(kind, width, rows, layers, in));
    }

    public int rooms(int room, int what) {
        if (!among(what, 0, 11)) {
            return BAD_NUMBER;
        }
        Room asked = now.roomAt(room);
        if (asked == null) {
            return NO_SUCH;
        }
        switch (what) {
            case 0: return asked.kind;
            case 1: return asked.width;
            case 2: return asked.rows;
            case 3: return asked.layers;
            case 4: return asked.within;
            case 5: return now.warmthOf(room, season.on(now.today));
            case 6: return now.blocksIn(room);
            case 7: return now.gramsIn(room);
            case 8: return asked.led;
            case 9: return asked.standing;
            case 10: return now.airSidesIn(room);
            default: return now.freeIn(room);
        }
    }

    public int lay(int room, int layer, int row) {
        Room asked = now.roomAt(room);
        if (asked == null) {
            return refuse(NO_SUCH);
        }
        if (!asked.hasRow(layer, row)) {
            return refuse(BAD_NUMBER);
        }
        boolean borne = layer == 0 || asked.isLaid(layer - 1, row);
        if (asked.isLaid(layer, row) || !borne) {
            return refuse(NOT_NOW);
        }
        asked.layRow(layer, row);
        return grant(0);
    }

    public int tear(int room, int layer, int row) {
        Room asked = now.roomAt(room);
        if (asked == null) {
            return refuse(NO_SUCH);
        }
        if (!asked.hasRow(layer, row)) {
            return refuse(BAD_NUMBER);
        }
        if (!asked.isLaid(layer, row)) {
            return refuse(NOT_LAID);
        }
        if (asked.isLaid(layer + 1, row) || !asked.isRowEmpty(layer, row)) {
            return refuse(NOT_NOW);
        }
        asked.tearRow(layer, row);
        return grant(0);
    }

    public int cut(int room, int place, int kind, int grams) {
        if (!isBlock(kind, grams)) {
            return refuse(BAD_NUMBER);
        }
        int bar = barToPut(now.roomAt(room), place);
        if (bar != 0) {
            return refuse(bar);
        }
        if (now.blockCount >= MOST_BLOCKS) {
            return refuse(TOO_MANY);
        }
        return grant(now.addBlock(room, place, kind, grams));
    }

    public int put(int room, int place, int what) {
        if (!among(what, 0, 1)) {
            return refuse(BAD_NUMBER);
        }
        Room asked = now.roomAt(room);
        int bar = barToPut(asked, place);
        if (asked == null || bar != 0) {
            return refuse(bar);
        }
        if (what == 0 && !asked.takesStraw()) {
            return refuse(NOT_NOW);
        }
        asked.hold(place, what == 0 ? STRAW : DRAIN);
        return grant(0);
    }

    public int clear(int room, int place) {
        Room asked = now.roomAt(room);
        int bar = barAt(asked, place);
        if (asked == null || bar != 0) {
            return refuse(bar);
        }
        int held = asked.held(place);
        boolean clearable = held == STRAW || held == DRAIN;
        if (!clearable || asked.heldAbove(place) != NOTHING) {
            return refuse(NOT_NOW);
        }
        asked.hold(place, NOTHING);
        return grant(0);
    }

    public int place(int room, int place) {
        Room asked = now.roomAt(room);
        int bar = barAt(asked, place);
        if (asked == null || bar != 0) {
            return bar;
        }
        return asked.held(place);
    }

    public int block(int block, int what) {
        if (!among(what, 0, 9)) {
            return BAD_NUMBER;
        }
        if (!now.hasBlock(block)) {
            return NO_SUCH;
        }
        switch (what) {
            case 0: return now.kinds[block];
            case 1: return now.grams[block];
            case 2: return now.inRoom[block];
            case 3: return now.atPlace[block];
            case 4: return now.cutOn[block];
            case 5: return now.spoiltOn[block];
            case 6: return now.sidesOf(block, IN_AIR);
            case 7: return now.sidesOf(block, IN_STRAW);
            case 8: return now.lossOf(block, now.warmthOf(now.inRoom[block], season.on(now.today)), rules);
            default: return now.isFree(block) ? 1 : 0;
        }
    }

    public int warm(int day, int bits) {
        if (!among(day, 0, LAST_DAY) || !Season.canBeTold(bits)) {
            return refuse(BAD_NUMBER);
        }
        season.tell(day, bits);
        return grant(0);
    }

    public int tenths(int day) {
        return among(day, 0, LAST_DAY) ? season.on(day) : NO_TENTHS;
    }

    public int terms(int part, int wet, int least) {
        if (!among(part, 0, 100) || !among(wet, 0, 10000) || !among(least, 1, 1000000)) {
            return refuse(BAD_NUMBER);
        }
        rules.part = part;
        rules.wet = wet;
        rules.least = least;
        return grant(0);
    }

    public int day() {
        if (now.today >= LAST_DAY) {
            return refuse(NOT_NOW);
        }
        now.reckon(season.on(now.today), rules);
        book.record(now, rules.least);
        return grant(now.passDay(rules.least));
    }

    public int count(int what) {
        switch (what) {
            case 0: return now.today;
            case 1: return now.cutGrams;
            case 2: return now.gramsIn(NONE);
            case 3: return now.soldGrams;
            case 4: return now.meltedGrams;
            case 5: return now.goneGrams;
            case 6: return now.ledGrams();
            case 7: return now.standingGrams();
            case 8: return now.blockCount;
            case 9: return now.blocksIn(NONE);
            case 10: return now.roomCount;
            case 11: return route.stretches;
            case 12: return route.daysInAll();
            case 13: return book.lines;
            case 14: return pile.size;
            case 15: return sales.takenCount;
            default: return BAD_NUMBER;
        }
    }

    public int next(int room) {
        if (now.roomAt(room) == null) {
            return NO_SUCH;
        }
        return now.nextOf(room, season.on(now.today), rules);
    }

    public int take(int room, int n) {
        if (!among(n, 1, MOST_BLOCKS)) {
            return refuse(BAD_NUMBER);
        }
        if (now.roomAt(room) == null) {
            return refuse(NO_SUCH);
        }
        if (now.blocksIn(room) < n) {
            return refuse(TOO_MANY);
        }
        return grant(sellFrom(room, n));
    }

    public int way(int kind, int days) {
        boolean rides = kind == BOAT || kind == CART;
        if (!rides || !among(days, 0, MOST_DAYS_OF_STRETCH)) {
            return refuse(BAD_NUMBER);
        }
        if (route.stretches >= MOST_STRETCHES) {
            return refuse(TOO_MANY);
        }
        return grant(route.add(kind, days));
    }

    /** It can't be REFUSED, so it leaves status() as it is. */
    public int home() {
        int had = route.stretches;
        route.stretches = 0;
        return had;
    }

    public int comes(int room, int n) {
        if (!among(n, 0, MOST_BLOCKS)) {
            return BAD_NUMBER;
        }
        if (now.roomAt(room) == null) {
            return NO_SUCH;
        }
        if (now.blocksIn(room) < n) {
            return TOO_MANY;
        }
        spare.copyFrom(now);
        int arrived = 0;
        for (int i = 0; i < n; i++) {
            arrived += arrivalOfNext(room);
        }
        return arrived;
    }

    public int send(int room, int grams) {
        if (!among(grams, 1, MOST_TO_SEND)) {
            return refuse(BAD_NUMBER);
        }
        if (now.roomAt(room) == null) {
            return refuse(NO_SUCH);
        }
        spare.copyFrom(now);
        int there = now.blocksIn(room);
        int needed = 0;
        int arrived = 0;
        while (needed < there && arrived < grams) {
            arrived += arrivalOfNext(room);
            needed++;
        }
        if (arrived < grams) {
            sales.noteShort(grams - arrived);
            return refuse(TOO_MANY);
        }
        sellFrom(room, needed);
        sales.noteSent(arrived, now);
        return grant(needed);
    }

    public int sent(int what) {
        switch (what) {
            case 0: return sales.missing;
            case 1: return sales.arrived;
            case 2: return sales.bill;
            default: return BAD_NUMBER;
        }
    }

    public int list(int i) {
        return sales.takenAt(i);
    }

    public int price(int kind, int cents) {
        if (!among(kind, PLAIN, SALT) || !among(cents, 0, MOST_CENTS)) {
            return refuse(BAD_NUMBER);
        }
        sales.prices[kind] = cents;
        return grant(0);
    }

    public int foretell(int days, int back) {
        if (!among(days, 1, MOST_FORETOLD) || !among(back, 0, LAST_DAY)) {
            return refuse(BAD_NUMBER);
        }
        spare.copyFrom(now);
        forecast.begin(spare);
        for (int i = 0; i < days && spare.today < LAST_DAY; i++) {
            spare.reckon(season.on(spare.today - back), rules);
            spare.passDay(rules.least);
            forecast.add(spare);
        }
        return grant(forecast.days);
    }

    public int foretold(int room, int i) {
        return forecast.gramsHeld(room, i);
    }

    public int last() {
        return forecast.lastDay;
    }

    public int heap(int kind, int grams) {
        if (!isBlock(kind, grams)) {
            return refuse(BAD_NUMBER);
        }
        if (pile.size >= MOST_IN_HEAP) {
            return refuse(TOO_MANY);
        }
        return grant(pile.add(kind, grams));
    }

    public int pack(int room) {
        Room asked = now.roomAt(room);
        if (asked == null) {
            return refuse(NO_SUCH);
        }
        if (pile.size > asked.places || pile.size > MOST_BLOCKS - now.blockCount) {
            return refuse(TOO_MANY);
        }
        if (pile.size == 0 || !asked.isAllLaid() || !asked.isEmpty()) {
            return refuse(NOT_NOW);
        }
        packer.mark(asked, pile.size);
        cutPileInto(room, asked);
        pile.size = 0;
        return grant(now.airSidesIn(room));
    }

    public int image(int k) {
        if (!among(k, 0, IMAGES - 1)) {
            return refuse(BAD_NUMBER);
        }
        Site kept = images[k];
        if (kept == null) {
            kept = new Site();
            images[k] = kept;
        }
        kept.copyFrom(now);
        return grant(0);
    }

    public int back(int k) {
        if (!among(k, 0, IMAGES - 1)) {
            return refuse(BAD_NUMBER);
        }
        Site kept = images[k];
        if (kept == null) {
            return refuse(NO_SUCH);
        }
        now.copyFrom(kept);
        book.drop();
        return grant(0);
    }

    public int line(int i, int what) {
        return book.hasPart(what) ? book.read(i, what) : BAD_NUMBER;
    }

    public int alter(int i, int what, int mask) {
        if (!book.hasPart(what) || mask == 0) {
            return refuse(BAD_NUMBER);
        }
        if (!book.hasLine(i)) {
            return refuse(NO_SUCH);
        }
        book.change(i, what, mask);
        return grant(0);
    }

    public int check() {
        return book.isKept ? book.firstWrong() : NOT_NOW;
    }

    public int status() {
        return refusedBy;
    }

    private int refuse(int why) {
        refusedBy = why;
        return why;
    }

    private int grant(int answer) {
        refusedBy = 0;
        return answer;
    }

    private int sellFrom(int room, int n) {
        int tenthsToday = season.on(now.today);
        int weight = 0;
        sales.forgetTaken();
        for (int i = 0; i < n; i++) {
            int block = now.nextOf(room, tenthsToday, rules);
            if (!now.hasBlock(block)) {
                break;
            }
            now.sell(block);
            sales.addTaken(block);
            weight += now.grams[block];
        }
        return weight;
    }

    /** Takes THE NEXT of a ROOM in the spare site and says what it comes to. */
    private int arrivalOfNext(int room) {
        int block = spare.nextOf(room, season.on(spare.today), rules);
        if (!spare.hasBlock(block)) {
            return 0;
        }
        spare.sell(block);
        return route.arrivalOf(spare.kinds[block], spare.grams[block], spare.today, season, rules.least);
    }

    private void cutPileInto(int number, Room marked) {
        int cut = 0;
        for (int p = 0; p < marked.places && cut < pile.size; p++) {
            if (marked.held(p) != NOTHING) {
                now.addBlock(number, p, pile.kinds[cut], pile.grams[cut]);
                cut++;
            }
        }
    }

    /** What keeps a PLACE from being looked at: 0 if nothing does. */
    private static int barAt(Room room, int place) {
        if (room == null) {
            return NO_SUCH;
        }
        if (!room.hasPlace(place)) {
            return BAD_NUMBER;
        }
        return room.isLaid(room.layerOf(place), room.rowOf(place)) ? 0 : NOT_LAID;
    }

    /** What keeps a thing from being put at a PLACE: 0 if nothing does. */
    private static int barToPut(Room room, int place) {
        int bar = barAt(room, place);
        if (room == null || bar != 0) {
            return bar;
        }
        if (room.held(place) != NOTHING) {
            return NOT_FREE;
        }
        return room.bears(place) ? 0 : NOTHING_BENEATH;
    }

    private static boolean among(int n, int least, int most) {
        return n >= least && n <= most;
    }

    private static boolean isBlock(int kind, int grams) {
        return among(kind, PLAIN, SALT) && among(grams, LEAST_WEIGHT, MOST_WEIGHT);
    }

    private static int rateOf(int kind) {
        return kind == SALT ? 5 : 3;
    }

    /** The WARMTH of a kind of ROOM without SALT, in TENTHS. */
    private static int warmthIn(int kind, int tenthsOutside) {
        switch (kind) {
            case CELLAR:
            case PIT: return (tenthsOutside + 80) / 2;
            case BOAT: return tenthsOutside + 10;
            case CART: return tenthsOutside + 30;
            default: return tenthsOutside;
        }
    }

    private static final class Terms {
        int part = 40;
        int wet = 200;
        int least = 1000;
    }

    /** OUTSIDE of the days, kept in TENTHS: nothing else is ever asked of it. */
    private static final class Season {
        private static final int SIGN_OFF = 0x7fffffff;
        private static final int BITS_OF_60 = 0x42700000;
        private static final int BITS_OF_INFINITY = 0x7f800000;

        private final int[] told = new int[LAST_DAY + 1];
        private final boolean[] isRead = new boolean[LAST_DAY + 1];
        private final int[] reckoned = new int[LAST_DAY + 1];

        static boolean canBeTold(int bits) {
            return isNoNumber(bits) || (bits & SIGN_OFF) <= BITS_OF_60;
        }

        void tell(int day, int bits) {
            if (!among(day, 0, LAST_DAY)) {
                return;
            }
            isRead[day] = !isNoNumber(bits);
            told[day] = isRead[day] ? (int) (floatOf(bits) * 10.0f) : 0;
            int latest = 0;
            for (int d = 0; d <= LAST_DAY; d++) {
                latest = isRead[d] ? told[d] : latest;
                reckoned[d] = latest;
            }
        }

        /** Days ahead of 0 are as 0, those behind the last one as the last one. */
        int on(int day) {
            return reckoned[Math.max(0, Math.min(day, LAST_DAY))];
        }

        private static boolean isNoNumber(int bits) {
            return (bits & SIGN_OFF) > BITS_OF_INFINITY;
        }

        /** Put together by hand, as the library's way from bits to a float is not allowed; each halving is exact. */
        private static float floatOf(int bits) {
            int power = (bits >> 23) & 255;
            int fraction = bits & 0x7fffff;
            float value = power == 0 ? (float) fraction : (float) (fraction | 0x800000);
            for (int p = Math.max(power, 1); p < 150; p++) {
                value = value / 2.0f;
            }
            return bits < 0 ? 0.0f - value : value;
        }
    }

    private static final class Room {
        int kind;
        int width;
        int rows;
        int layers;
        int places;
        int within;
        int led;
        int standing;
        /** A bit for each ROW. */
        private int laid;
        private final int[] cells = new int[MOST_PLACES];

        /** All is set anew: back() may have left an older ROOM here. */
        void open(int newKind, int newWidth, int newRows, int newLayers, int newWithin) {
            kind = newKind;
            width = newWidth;
            rows = newRows;
            layers = newLayers;
            places = newWidth * newRows * newLayers;
            within = newWithin;
            led = 0;
            standing = 0;
            laid = 0;
            Arrays.fill(cells, NOTHING);
        }

        void copyFrom(Room other) {
            kind = other.kind;
            width = other.width;
            rows = other.rows;
            layers = other.layers;
            places = other.places;
            within = other.within;
            led = other.led;
            standing = other.standing;
            laid = other.laid;
            System.arraycopy(other.cells, 0, cells, 0, MOST_PLACES);
        }

        boolean hasPlace(int place) {
            return place >= 0 && place < places && place < MOST_PLACES;
        }

        boolean hasRow(int layer, int row) {
            return layer >= 0 && layer < layers && row >= 0 && row < rows;
        }

        boolean isLaid(int layer, int row) {
            return hasRow(layer, row) && (laid & rowBit(layer, row)) != 0;
        }

        void layRow(int layer, int row) {
            laid = laid | rowBit(layer, row);
        }

        void tearRow(int layer, int row) {
            laid = laid & ~rowBit(layer, row);
        }

        private static int rowBit(int layer, int row) {
            return 1 << (row + MOST_ROWS * layer);
        }

        boolean isAllLaid() {
            for (int z = 0; z < layers; z++) {
                for (int y = 0; y < rows; y++) {
                    if (!isLaid(z, y)) {
                        return false;
                    }
                }
            }
            return true;
        }

        boolean isRowEmpty(int layer, int row) {
            int first = width * (row + rows * layer);
            for (int x = 0; x < width; x++) {
                if (held(first + x) != NOTHING) {
                    return false;
                }
            }
            return true;
        }

        boolean isEmpty() {
            for (int p = 0; p < places; p++) {
                if (held(p) != NOTHING) {
                    return false;
                }
            }
            return true;
        }

        boolean takesStraw() {
            return kind != CART && !(kind == BOAT && layers == 1);
        }

        int layerOf(int place) {
            int perLayer = width * rows;
            return perLayer < 1 ? 0 : place / perLayer;
        }

        int rowOf(int place) {
            return width < 1 || rows < 1 ? 0 : place / width % rows;
        }

        private int columnOf(int place) {
            return width < 1 ? 0 : place % width;
        }

        int held(int place) {
            return hasPlace(place) ? cells[place] : NOTHING;
        }

        void hold(int place, int what) {
            if (hasPlace(place)) {
                cells[place] = what;
            }
        }

        int heldAbove(int place) {
            return held(place + width * rows);
        }

        boolean bears(int place) {
            int beneath = held(place - width * rows);
            return layerOf(place) == 0 || beneath == STRAW || beneath >= FIRST_BLOCK;
        }

        /** Beyond the ROOM there is nothing, as in a ROW that is not LAID; the PLACE has to be one of the ROOM's. */
        int beside(int place, int side) {
            switch (side) {
                case 0: return columnOf(place) > 0 ? held(place - 1) : NOTHING;
                case 1: return columnOf(place) < width - 1 ? held(place + 1) : NOTHING;
                case 2: return rowOf(place) > 0 ? held(place - width) : NOTHING;
                case 3: return rowOf(place) < rows - 1 ? held(place + width) : NOTHING;
                case 4: return held(place - width * rows);
                default: return held(place + width * rows);
            }
        }

        int sidesIn(int place, int sort) {
            int sides = 0;
            for (int side = 0; side < SIDES; side++) {
                if (sortOf(beside(place, side)) == sort) {
                    sides++;
                }
            }
            return sides;
        }

        private static int sortOf(int held) {
            if (held >= FIRST_BLOCK) {
                return SHUT;
            }
            return held == STRAW ? IN_STRAW : IN_AIR;
        }

        boolean isInWater(int place) {
            return kind == PIT && layerOf(place) == 0 && !isFloorDrained();
        }

        boolean leadsOff(int place) {
            int perLayer = width * rows;
            int beneath = place - perLayer;
            for (int z = layerOf(place); z > 0; z--) {
                if (held(beneath) == DRAIN) {
                    return true;
                }
                beneath -= perLayer;
            }
            return isFloorDrained();
        }

        private boolean isFloorDrained() {
            int perLayer = width * rows;
            for (int p = 0; p < perLayer; p++) {
                if (held(p) == DRAIN) {
                    return true;
                }
            }
            return false;
        }
    }

    /** All that an IMAGE keeps: TODAY, the ROOMS with what they hold, the BLOCKS and the grams. */
    private static final class Site {
        int today;
        int cutGrams;
        int soldGrams;
        int meltedGrams;
        int goneGrams;
        int roomCount;
        private final Room[] halls = new Room[MOST_ROOMS];
        int blockCount;
        final int[] kinds = new int[MOST_BLOCKS];
        final int[] grams = new int[MOST_BLOCKS];
        final int[] inRoom = new int[MOST_BLOCKS];
        final int[] atPlace = new int[MOST_BLOCKS];
        final int[] cutOn = new int[MOST_BLOCKS];
        final int[] spoiltOn = new int[MOST_BLOCKS];
        /** The LOSS of each BLOCK as reckon() found it; of no use behind the day. */
        final int[] losses = new int[MOST_BLOCKS];

        Site() {
            for (int r = 0; r < MOST_ROOMS; r++) {
                halls[r] = new Room();
            }
        }

        void copyFrom(Site other) {
            today = other.today;
            cutGrams = other.cutGrams;
            soldGrams = other.soldGrams;
            meltedGrams = other.meltedGrams;
            goneGrams = other.goneGrams;
            roomCount = other.roomCount;
            for (int r = 0; r < roomCount; r++) {
                Room from = other.roomAt(r);
                Room to = roomAt(r);
                if (from != null && to != null) {
                    to.copyFrom(from);
                }
            }
            blockCount = other.blockCount;
            System.arraycopy(other.kinds, 0, kinds, 0, MOST_BLOCKS);
            System.arraycopy(other.grams, 0, grams, 0, MOST_BLOCKS);
            System.arraycopy(other.inRoom, 0, inRoom, 0, MOST_BLOCKS);
            System.arraycopy(other.atPlace, 0, atPlace, 0, MOST_BLOCKS);
            System.arraycopy(other.cutOn, 0, cutOn, 0, MOST_BLOCKS);
            System.arraycopy(other.spoiltOn, 0, spoiltOn, 0, MOST_BLOCKS);
        }

        Room roomAt(int number) {
            return number >= 0 && number < roomCount && number < MOST_ROOMS ? halls[number] : null;
        }

        boolean hasBlock(int block) {
            return block >= 0 && block < blockCount && block < MOST_BLOCKS;
        }

        int addRoom(int kind, int width, int rows, int layers, int within) {
            int number = roomCount;
            roomCount = number + 1;
            Room added = roomAt(number);
            if (added != null) {
                added.open(kind, width, rows, layers, within);
            }
            return number;
        }

        int addBlock(int room, int place, int kind, int weight) {
            int block = blockCount;
            Room into = roomAt(room);
            if (into == null || block >= MOST_BLOCKS) {
                return NONE;
            }
            blockCount = block + 1;
            kinds[block] = kind;
            grams[block] = weight;
            inRoom[block] = room;
            atPlace[block] = place;
            cutOn[block] = today;
            spoiltOn[block] = NONE;
            cutGrams += weight;
            into.hold(place, FIRST_BLOCK + block);
            return block;
        }

        void sell(int block) {
            soldGrams += grams[block];
            removeBlock(block);
        }

        private void removeBlock(int block) {
            Room from = roomAt(inRoom[block]);
            if (from != null) {
                from.hold(atPlace[block], NOTHING);
            }
            inRoom[block] = NONE;
            atPlace[block] = NONE;
        }

        private boolean liesIn(int block, int room) {
            return inRoom[block] != NONE && (room == NONE || inRoom[block] == room);
        }

        /** Of one ROOM, or of all with NONE; so are the next ones. */
        int blocksIn(int room) {
            int found = 0;
            for (int b = 0; b < blockCount; b++) {
                found += liesIn(b, room) ? 1 : 0;
            }
            return found;
        }

        int gramsIn(int room) {
            int weight = 0;
            for (int b = 0; b < blockCount; b++) {
                weight += liesIn(b, room) ? grams[b] : 0;
            }
            return weight;
        }

        int airSidesIn(int room) {
            int sides = 0;
            for (int b = 0; b < blockCount; b++) {
                sides += liesIn(b, room) ? sidesOf(b, IN_AIR) : 0;
            }
            return sides;
        }

        int freeIn(int room) {
            int found = 0;
            for (int b = 0; b < blockCount; b++) {
                found += liesIn(b, room) && isFree(b) ? 1 : 0;
            }
            return found;
        }

        private int saltIn(int room) {
            int found = 0;
            for (int b = 0; b < blockCount; b++) {
                found += kinds[b] == SALT && liesIn(b, room) ? 1 : 0;
            }
            return found;
        }

        int ledGrams() {
            int weight = 0;
            for (int r = 0; r < roomCount; r++) {
                Room room = roomAt(r);
                weight += room == null ? 0 : room.led;
            }
            return weight;
        }

        int standingGrams() {
            int weight = 0;
            for (int r = 0; r < roomCount; r++) {
                Room room = roomAt(r);
                weight += room == null ? 0 : room.standing;
            }
            return weight;
        }

        int sidesOf(int block, int sort) {
            Room room = roomAt(inRoom[block]);
            return room == null ? 0 : room.sidesIn(atPlace[block], sort);
        }

        boolean isFree(int block) {
            Room room = roomAt(inRoom[block]);
            return room != null && room.heldAbove(atPlace[block]) < FIRST_BLOCK;
        }

        /** An INNER one takes over the WARMTH around it, so the SALT of all those around it cools it too. */
        int warmthOf(int room, int tenthsOutside) {
            int cooled = 0;
            int around = room;
            for (int step = 0; step < MOST_ROOMS; step++) {
                Room at = roomAt(around);
                if (at == null) {
                    break;
                }
                cooled += 2 * saltIn(around);
                if (at.kind != INNER) {
                    return warmthIn(at.kind, tenthsOutside) - cooled;
                }
                around = at.within;
            }
            return tenthsOutside - cooled;
        }

        int lossOf(int block, int warmth, Terms rules) {
            Room room = roomAt(inRoom[block]);
            if (room == null) {
                return 0;
            }
            int place = atPlace[block];
            int perSide = rateOf(kinds[block]) * Math.max(warmth, 0);
            int loss = room.sidesIn(place, IN_AIR) * perSide;
            loss += room.sidesIn(place, IN_STRAW) * (perSide * rules.part / 100);
            loss += room.isInWater(place) ? rules.wet : 0;
            return Math.min(loss, grams[block]);
        }

        int nextOf(int number, int tenthsOutside, Terms rules) {
            Room room = roomAt(number);
            if (room == null) {
                return NONE;
            }
            int warmth = warmthOf(number, tenthsOutside);
            int best = NONE;
            int bestLoss = 0;
            int bestLayer = 0;
            for (int p = 0; p < room.places; p++) {
                int block = room.held(p) - FIRST_BLOCK;
                if (!hasBlock(block) || !isFree(block)) {
                    continue;
                }
                int loss = lossOf(block, warmth, rules);
                int layer = room.layerOf(p);
                if (best == NONE || loss > bestLoss || loss == bestLoss && layer > bestLayer) {
                    best = block;
                    bestLoss = loss;
                    bestLayer = layer;
                }
            }
            return best;
        }

        void reckon(int tenthsOutside, Terms rules) {
            Arrays.fill(losses, 0);
            for (int r = 0; r < roomCount; r++) {
                int warmth = warmthOf(r, tenthsOutside);
                for (int b = 0; b < blockCount; b++) {
                    if (liesIn(b, r)) {
                        losses[b] = lossOf(b, warmth, rules);
                    }
                }
            }
        }

        /** A DAY with the LOSSES as reckoned: how many grams MELTED. */
        int passDay(int least) {
            spoilClearOnes();
            int melted = 0;
            for (int b = 0; b < blockCount; b++) {
                if (liesIn(b, NONE)) {
                    melted += losses[b];
                    melt(b, least);
                }
            }
            meltedGrams += melted;
            today++;
            return melted;
        }

        private void melt(int block, int least) {
            int loss = losses[block];
            Room room = roomAt(inRoom[block]);
            if (room == null) {
                return;
            }
            if (room.leadsOff(atPlace[block])) {
                room.led += loss;
            } else {
                room.standing += loss;
            }
            grams[block] -= loss;
            if (grams[block] < least) {
                goneGrams += grams[block];
                grams[block] = 0;
                removeBlock(block);
            }
        }

        /** Goes ahead of all melting, as it is by how they lay at the day's beginning. */
        private void spoilClearOnes() {
            for (int b = 0; b < blockCount; b++) {
                boolean unspoilt = kinds[b] == CLEAR && spoiltOn[b] == NONE;
                if (unspoilt && isSpoiling(b)) {
                    spoiltOn[b] = today;
                }
            }
        }

        private boolean isSpoiling(int block) {
            Room room = roomAt(inRoom[block]);
            if (room == null) {
                return false;
            }
            int place = atPlace[block];
            for (int side = 0; side < SIDES; side++) {
                int other = room.beside(place, side) - FIRST_BLOCK;
                if (hasBlock(other) && kinds[other] == SALT) {
                    return true;
                }
            }
            return room.isInWater(place);
        }
    }

    /** THE WAY. */
    private static final class Route {
        int stretches;
        private final int[] kinds = new int[MOST_STRETCHES];
        private final int[] lengths = new int[MOST_STRETCHES];

        int add(int kind, int days) {
            if (stretches < MOST_STRETCHES) {
                kinds[stretches] = kind;
                lengths[stretches] = days;
                stretches++;
            }
            return stretches;
        }

        int daysInAll() {
            int days = 0;
            for (int s = 0; s < stretches; s++) {
                days += lengths[s];
            }
            return days;
        }

        /** What one BLOCK weighs at THE WAY's end. */
        int arrivalOf(int kind, int grams, int today, Season season, int least) {
            int left = grams;
            int date = today;
            for (int s = 0; s < stretches; s++) {
                for (int d = 0; d < lengths[s]; d++) {
                    int warmth = warmthIn(kinds[s], season.on(date));
                    left -= SIDES * rateOf(kind) * Math.max(warmth, 0);
                    if (left < least) {
                        return 0;
                    }
                    date++;
                }
            }
            return left;
        }
    }

    /** The PRICES, the latest TAKEN or SENT ones and the latest send(). */
    private static final class Sales {
        final int[] prices = new int[SALT + 1];
        private final int[] taken = new int[MOST_BLOCKS];
        int takenCount;
        int missing;
        int arrived;
        int bill;

        void forgetTaken() {
            takenCount = 0;
        }

        void addTaken(int block) {
            if (takenCount < MOST_BLOCKS) {
                taken[takenCount] = block;
                takenCount++;
            }
        }

        int takenAt(int i) {
            return i >= 0 && i < takenCount ? taken[i] : NONE;
        }

        void noteShort(int grams) {
            missing = grams;
            arrived = 0;
            bill = 0;
        }

        void noteSent(int grams, Site site) {
            missing = 0;
            arrived = grams;
            bill = 0;
            for (int i = 0; i < takenCount; i++) {
                bill += billFor(taken[i], site);
            }
        }

        private int billFor(int block, Site site) {
            if (!site.hasBlock(block)) {
                return 0;
            }
            boolean spoilt = site.kinds[block] == CLEAR && site.spoiltOn[block] != NONE;
            int cents = prices[spoilt ? PLAIN : site.kinds[block]];
            // A thousand kilos at the highest PRICE are beyond an int ahead of the division.
            return (int) ((long) site.grams[block] * cents / 1000);
        }
    }

    /** The latest foretell(). */
    private static final class Forecast {
        private static final int PER_DAY = MOST_ROOMS + 1;

        int days = NONE;
        int lastDay = NONE;
        private int roomsThen;
        private final int[] held = new int[PER_DAY * (MOST_FORETOLD + 1)];

        void begin(Site site) {
            days = 0;
            roomsThen = site.roomCount;
            lastDay = SOME_LEFT;
            record(site);
        }

        void add(Site site) {
            if (days < MOST_FORETOLD) {
                days++;
                record(site);
            }
        }

        /** The day that is just over is TODAY less 1; so it is for last() if nothing was there at first. */
        private void record(Site site) {
            for (int r = NONE; r < roomsThen; r++) {
                held[slotOf(r, days)] = site.gramsIn(r);
            }
            if (lastDay == SOME_LEFT && site.blocksIn(NONE) == 0) {
                lastDay = site.today - 1;
            }
        }

        int gramsHeld(int room, int i) {
            boolean known = i >= 0 && i <= days && room >= NONE && room < roomsThen;
            return known ? held[slotOf(room, i)] : NONE;
        }

        /** All together stand as room -1, ahead of the ROOMS. */
        private static int slotOf(int room, int i) {
            return i * PER_DAY + room + 1;
        }
    }

    /** THE BOOK; each LINE is kept twice, as it reads now and as the day was. */
    private static final class Book {
        boolean isKept;
        int lines;
        private final int[] written = new int[MOST_BLOCKS * LINE_PARTS];
        private final int[] right = new int[MOST_BLOCKS * LINE_PARTS];

        void drop() {
            isKept = false;
            lines = 0;
        }

        /** Of a day whose LOSSES are reckoned and not yet lost. */
        void record(Site site, int least) {
            isKept = true;
            lines = 0;
            for (int b = 0; b < site.blockCount; b++) {
                if (site.losses[b] > 0 && lines < MOST_BLOCKS) {
                    write(site, b, least);
                    lines++;
                }
            }
        }

        private void write(Site site, int block, int least) {
            int left = site.grams[block] - site.losses[block];
            int first = lines * LINE_PARTS;
            right[first] = block;
            right[first + 1] = site.inRoom[block];
            right[first + 2] = site.atPlace[block];
            right[first + 3] = site.grams[block];
            right[first + 4] = site.losses[block];
            right[first + 5] = left < least ? 0 : left;
            System.arraycopy(right, first, written, first, LINE_PARTS);
        }

        boolean hasLine(int i) {
            return i >= 0 && i < lines;
        }

        boolean hasPart(int what) {
            return what >= 0 && what < LINE_PARTS;
        }

        int read(int i, int what) {
            return hasLine(i) && hasPart(what) ? written[i * LINE_PARTS + what] : NO_SUCH;
        }

        void change(int i, int what, int mask) {
            if (hasLine(i) && hasPart(what)) {
                int slot = i * LINE_PARTS + what;
                written[slot] = written[slot] ^ mask;
            }
        }

        int firstWrong() {
            for (int i = 0; i < lines; i++) {
                for (int what = 0; what < LINE_PARTS; what++) {
                    int slot = i * LINE_PARTS + what;
                    if (written[slot] != right[slot]) {
                        return i;
                    }
                }
            }
            return NONE;
        }
    }

    /** The HEAP. */
    private static final class Pile {
        int size;
        final int[] kinds = new int[MOST_IN_HEAP];
        final int[] grams = new int[MOST_IN_HEAP];

        int add(int kind, int weight) {
            if (size < MOST_IN_HEAP) {
                kinds[size] = kind;
                grams[size] = weight;
                size++;
            }
            return size;
        }
    }

    /** Finds the PLACES for the HEAP and marks them in the ROOM itself, as if some BLOCK lay there. */
    private static final class Packer {
        private static final int MARK = FIRST_BLOCK;

        private final int[] tried = new int[MOST_TRIED];
        private final int[] best = new int[MOST_TRIED];
        private int bestMeetings;

        void mark(Room room, int blocks) {
            boolean small = room.width <= 3 && room.rows <= 3 && room.layers <= 2;
            if (small && blocks <= MOST_TRIED) {
                markBest(room, blocks);
            } else {
                markOneByOne(room, blocks);
            }
        }

        private void markBest(Room room, int blocks) {
            bestMeetings = NONE;
            tryAll(this, room, blocks, 0, 0, 0);
            for (int i = 0; i < blocks && i < MOST_TRIED; i++) {
                room.hold(best[i], MARK);
            }
        }

        /**
         * Sides in air are fewest where most BLOCKS meet. Ways come in their order, so only a better one ousts the
         * best; and as a BLOCK meets at most three of those in lower PLACES, most ways need not be gone to their end.
         */
        private static void tryAll(Packer p, Room room, int blocks, int depth, int from, int meetings) {
            int mostToCome = 3 * (blocks - depth);
            if (meetings + mostToCome <= p.bestMeetings) {
                return;
            }
            if (depth >= blocks || depth >= MOST_TRIED) {
                p.bestMeetings = meetings;
                System.arraycopy(p.tried, 0, p.best, 0, MOST_TRIED);
                return;
            }
            int lastFit = room.places - (blocks - depth);
            for (int place = from; place <= lastFit; place++) {
                if (room.bears(place)) {
                    int met = room.sidesIn(place, SHUT);
                    p.tried[depth] = place;
                    room.hold(place, MARK);
                    tryAll(p, room, blocks, depth + 1, place + 1, meetings + met);
                    room.hold(place, NOTHING);
                }
            }
        }

        private static void markOneByOne(Room room, int blocks) {
            for (int i = 0; i < blocks; i++) {
                room.hold(mostShut(room), MARK);
            }
        }

        private static int mostShut(Room room) {
            int found = NONE;
            int most = NONE;
            for (int place = 0; place < room.places; place++) {
                if (room.held(place) == NOTHING && room.bears(place)) {
                    int shut = room.sidesIn(place, SHUT);
                    if (shut > most) {
                        most = shut;
                        found = place;
                    }
                }
            }
            return found;
        }
    }
}
