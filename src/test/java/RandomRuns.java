import java.util.ArrayList;
import java.util.Arrays;
import java.util.HashMap;
import java.util.List;
import java.util.Map;
import java.util.Random;
import java.util.TreeMap;

/**
 * Runs of calls by a seeded dice against a second, plain telling of the document, and against what must always hold:
 * no gram gets lost, and no call throws. The model is written for the eye, not for speed, and shares nothing with the
 * class.
 */
public final class RandomRuns {
    private static final int RUNS = 1500;
    /** With the eight of the reckoning at a run's end these are 512, all that an object is used for. */
    private static final int CALLS = 504;
    private static int wrong = 0;

    public static void main(String[] args) {
        for (int seed = 1; seed <= RUNS && wrong < 20; seed++) {
            new Run(seed).go();
        }
        packAllShapes();
        System.out.println(wrong == 0 ? "all runs are as due" : wrong + " answers are not as due");
        if (wrong != 0) {
            System.exit(1);
        }
    }

    /** Each small shape, and those just beyond, with each number of BLOCKS. */
    private static void packAllShapes() {
        for (int shape = 0; shape < 4 * 4 * 3; shape++) {
            int width = 1 + shape % 4;
            int rows = 1 + shape / 4 % 4;
            int layers = 1 + shape / 16;
            for (int n = 1; n <= Math.min(30, width * rows * layers) && wrong < 20; n++) {
                new Run(-shape).packInto(width, rows, layers, n);
            }
        }
    }

    private static final class Run {
        private final int seed;
        private final Random dice;
        private final IceTrade trade = new IceTrade();
        private final Model model = new Model();
        private final boolean wild;
        private final boolean small;
        private final int hot;
        private int calls = 0;

        Run(int seed) {
            this.seed = seed;
            dice = new Random(seed);
            wild = seed % 10 == 0;
            small = seed % 3 == 0;
            hot = seed % 2 == 0 ? 300 : 110;
        }

        void packInto(int width, int rows, int layers, int n) {
            addLaidRoom(new int[] {0, 0, width, rows, layers, -1}, 0);
            for (int i = 0; i < n; i++) {
                compare(new int[] {27, i % 3, 1000 + i});
            }
            compare(new int[] {28, 0});
            for (int p = 0; p < width * rows * layers; p++) {
                compare(new int[] {7, 0, p});
            }
        }

        void go() {
            int first = 1 + dice.nextInt(4);
            for (int i = 0; i < first; i++) {
                addLaidRoom(roomCall(), dice.nextInt(3) == 0 ? 8 : 0);
            }
            while (calls < CALLS && wrong < 20) {
                compare(calls % 100 < 30 && dice.nextInt(3) != 0 ? fillingCall() : anyCall());
            }
            int kept = trade.count(2) + trade.count(3) + trade.count(4) + trade.count(5);
            due("grams in all", kept, trade.count(1));
            due("LED and STANDING", trade.count(6) + trade.count(7), trade.count(4));
        }

        private void due(String what, int got, int want) {
            if (got != want) {
                wrong++;
                System.out.println("seed " + seed + ": " + what + " answered " + got + ", due is " + want);
            }
        }

        /** Its ROWS are LAID but for one in so many, 0 for none. */
        private void addLaidRoom(int[] call, int oneIn) {
            compare(call);
            int number = model.site.rooms.size() - 1;
            Model.R r = model.site.room(number);
            for (int row = 0; r != null && row < r.h * r.l; row++) {
                if (oneIn == 0 || dice.nextInt(oneIn) != 0) {
                    compare(new int[] {2, number, row / r.h, row % r.h});
                }
            }
        }

        private void compare(int[] call) {
            String text = "call " + calls + " " + Arrays.toString(call);
            calls++;
            int want = model.answer(call);
            int got;
            try {
                got = ask(trade, call);
            } catch (RuntimeException e) {
                wrong++;
                System.out.println("seed " + seed + ": " + text + " threw " + e);
                return;
            }
            due(text, got, want);
        }

        private int upTo(int most) {
            return dice.nextInt(most + 1);
        }

        /** Mostly 0 .. most, at times just beyond it, in wild runs anything. */
        private int number(int most) {
            int luck = dice.nextInt(wild ? 6 : 60);
            if (luck == 0) {
                return dice.nextBoolean() ? -1 : most + 1;
            }
            return luck == 1 && wild ? dice.nextInt() : upTo(most);
        }

        private int roomNumber() {
            return number(Math.max(0, model.site.rooms.size() - 1));
        }

        private int placeNumber(int room) {
            Model.R r = model.site.room(room);
            return number(r == null ? 179 : r.w * r.h * r.l - 1);
        }

        private int weight() {
            int[] mosts = {300, 3000, 30000, 998999};
            return 1000 + number(mosts[dice.nextInt(4)]);
        }

        private int warmthBits() {
            switch (dice.nextInt(12)) {
                case 0: return dice.nextInt();
                case 1: return Float.floatToRawIntBits(Float.NaN);
                case 2: return Float.floatToRawIntBits(dice.nextFloat() * 130 - 65);
                case 3: return Float.floatToRawIntBits(dice.nextBoolean() ? 60f : -60f);
                default: return Float.floatToRawIntBits(dice.nextInt(hot) / 10f - 8f);
            }
        }

        /** A BLOCK, STRAW or a DRAIN where it can be put, if the dice find such a PLACE. */
        private int[] fillingCall() {
            int room = roomNumber();
            int place = placeNumber(room);
            for (int tries = 0; tries < 30 && model.barToPut(room, place) != 0; tries++) {
                room = roomNumber();
                place = placeNumber(room);
            }
            switch (dice.nextInt(8)) {
                case 0: return new int[] {5, room, place, number(1)};
                case 1: return new int[] {10, upTo(40), warmthBits()};
                default: return new int[] {4, room, place, number(2), weight()};
            }
        }

        private int[] roomCall() {
            int kind = number(5);
            int in = kind == 2 ? roomNumber() : dice.nextInt(20) == 0 ? 0 : -1;
            int most = small ? 2 : 5;
            return new int[] {0, kind, 1 + number(most), 1 + number(most), 1 + number(small ? 1 : 4), in};
        }

        private int[] cutCall(int room) {
            return new int[] {4, room, placeNumber(room), number(2), weight()};
        }

        private int[] anyCall() {
            int room = roomNumber();
            int place = placeNumber(room);
            int blocks = model.site.blocks.size();
            switch (dice.nextInt(48)) {
                case 0: return roomCall();
                case 1: return new int[] {1, room, number(11)};
                case 2: return new int[] {2, room, number(4), number(5)};
                case 3: return new int[] {3, room, number(4), number(5)};
                case 4:
                case 5:
                case 6:
                case 7:
                case 8: return cutCall(room);
                case 9:
                case 10: return new int[] {5, room, place, number(1)};
                case 11: return new int[] {6, room, place};
                case 12: return new int[] {7, room, place};
                case 13:
                case 14:
                case 15:
                case 16: return new int[] {8, number(blocks), number(9)};
                case 17: return new int[] {10, upTo(30), warmthBits()};
                case 18: return new int[] {10, number(199), warmthBits()};
                case 19: return new int[] {11, number(199)};
                case 20: return dice.nextInt(6) == 0 ? new int[] {12, number(100), number(400), 1 + number(3000)}
                    : new int[] {12, 40, 200, 1000};
                case 21:
                case 22: return new int[] {13};
                case 23:
                case 24:
                case 25: return new int[] {14, number(15)};
                case 26: return new int[] {1, room, number(11)};
                case 27: return new int[] {15, room};
                case 28: return new int[] {16, room, number(dice.nextBoolean() ? 2 : 20)};
                case 29: return new int[] {17, 3 + number(1), number(6)};
                case 30: return dice.nextInt(3) == 0 ? new int[] {18} : new int[] {1, room, 5};
                case 31:
                case 32: return new int[] {19, room, number(6)};
                case 33:
                case 34: return new int[] {20, room, number(40000)};
                case 35: return new int[] {21, number(2)};
                case 36: return new int[] {22, number(5)};
                case 37: return new int[] {23, number(2), number(5000)};
                case 38: return new int[] {24, 1 + number(dice.nextInt(9) == 0 ? 199 : 9), number(12)};
                case 39: return new int[] {25, dice.nextBoolean() ? -1 : room, number(9)};
                case 40: return new int[] {26};
                case 41:
                case 42: return new int[] {27, number(2), weight()};
                case 43: return new int[] {28, room};
                case 44: return new int[] {dice.nextInt(4) == 0 ? 30 : 29, number(3)};
                case 45: return new int[] {31, number(4), number(5)};
                case 46: return new int[] {32, number(4), number(5), dice.nextInt(8)};
                default: return dice.nextBoolean() ? new int[] {33} : new int[] {34};
            }
        }
    }

    private static int ask(IceTrade t, int[] c) {
        switch (c[0]) {
            case 0: return t.room(c[1], c[2], c[3], c[4], c[5]);
            case 1: return t.rooms(c[1], c[2]);
            case 2: return t.lay(c[1], c[2], c[3]);
            case 3: return t.tear(c[1], c[2], c[3]);
            case 4: return t.cut(c[1], c[2], c[3], c[4]);
            case 5: return t.put(c[1], c[2], c[3]);
            case 6: return t.clear(c[1], c[2]);
            case 7: return t.place(c[1], c[2]);
            case 8: return t.block(c[1], c[2]);
            case 10: return t.warm(c[1], c[2]);
            case 11: return t.tenths(c[1]);
            case 12: return t.terms(c[1], c[2], c[3]);
            case 13: return t.day();
            case 14: return t.count(c[1]);
            case 15: return t.next(c[1]);
            case 16: return t.take(c[1], c[2]);
            case 17: return t.way(c[1], c[2]);
            case 18: return t.home();
            case 19: return t.comes(c[1], c[2]);
            case 20: return t.send(c[1], c[2]);
            case 21: return t.sent(c[1]);
            case 22: return t.list(c[1]);
            case 23: return t.price(c[1], c[2]);
            case 24: return t.foretell(c[1], c[2]);
            case 25: return t.foretold(c[1], c[2]);
            case 26: return t.last();
            case 27: return t.heap(c[1], c[2]);
            case 28: return t.pack(c[1]);
            case 29: return t.image(c[1]);
            case 30: return t.back(c[1]);
            case 31: return t.line(c[1], c[2]);
            case 32: return t.alter(c[1], c[2], c[3]);
            case 33: return t.check();
            default: return t.status();
        }
    }

    /** The document told once more. */
    private static final class Model {
        static final int[][] AROUND = {{-1, 0, 0}, {1, 0, 0}, {0, -1, 0}, {0, 1, 0}, {0, 0, -1}, {0, 0, 1}};

        static final class B {
            int kind, grams, room, place, day, spoilt;

            B copy() {
                B b = new B();
                b.kind = kind;
                b.grams = grams;
                b.room = room;
                b.place = place;
                b.day = day;
                b.spoilt = spoilt;
                return b;
            }
        }

        static final class R {
            int kind, w, h, l, in, led, standing;
            boolean[][] laid;
            /** What lies at a PLACE; where nothing does there is no entry. */
            TreeMap<Integer, Integer> held = new TreeMap<>();

            R copy() {
                R r = new R();
                r.kind = kind;
                r.w = w;
                r.h = h;
                r.l = l;
                r.in = in;
                r.led = led;
                r.standing = standing;
                r.laid = new boolean[l][];
                for (int z = 0; z < l; z++) {
                    r.laid[z] = laid[z].clone();
                }
                r.held = new TreeMap<>(held);
                return r;
            }

            int[] xyz(int place) {
                return new int[] {place % w, place / w % h, place / (w * h)};
            }

            int at(int x, int y, int z) {
                if (x < 0 || y < 0 || z < 0 || x >= w || y >= h || z >= l) {
                    return 0;
                }
                return held.getOrDefault(x + w * (y + h * z), 0);
            }

            int[] neighbours(int place) {
                int[] c = xyz(place);
                int[] found = new int[6];
                for (int s = 0; s < 6; s++) {
                    found[s] = at(c[0] + AROUND[s][0], c[1] + AROUND[s][1], c[2] + AROUND[s][2]);
                }
                return found;
            }

            boolean wet(int place) {
                if (kind != 5 || place >= w * h) {
                    return false;
                }
                for (int p = 0; p < w * h; p++) {
                    if (held.getOrDefault(p, 0) == 2) {
                        return false;
                    }
                }
                return true;
            }

            boolean led(int place) {
                int[] c = xyz(place);
                for (Map.Entry<Integer, Integer> e : held.entrySet()) {
                    int[] d = xyz(e.getKey());
                    boolean beneath = d[0] == c[0] && d[1] == c[1] && d[2] < c[2];
                    if (e.getValue() == 2 && (d[2] == 0 || beneath)) {
                        return true;
                    }
                }
                return false;
            }
        }

        static final class Site {
            int today, cut, sold, melted, gone;
            List<R> rooms = new ArrayList<>();
            List<B> blocks = new ArrayList<>();

            Site copy() {
                Site s = new Site();
                s.today = today;
                s.cut = cut;
                s.sold = sold;
                s.melted = melted;
                s.gone = gone;
                for (R r : rooms) {
                    s.rooms.add(r.copy());
                }
                for (B b : blocks) {
                    s.blocks.add(b.copy());
                }
                return s;
            }

            R room(int n) {
                return n < 0 || n >= rooms.size() ? null : rooms.get(n);
            }
        }

        Site site = new Site();
        final Map<Integer, Float> told = new HashMap<>();
        final Map<Integer, Site> images = new HashMap<>();
        int part = 40, wet = 200, least = 1000, status = 0;
        final List<int[]> way = new ArrayList<>();
        final List<int[]> heap = new ArrayList<>();
        List<Integer> list = new ArrayList<>();
        List<int[]> book = null;
        List<int[]> truth = null;
        final int[] price = new int[3];
        final int[] sent = new int[3];
        List<int[]> foretold = null;
        int last = -1;

        int answer(int[] c) {
            int got = reply(c);
            boolean asks = List.of(1, 7, 8, 11, 14, 15, 18, 19, 21, 22, 25, 26, 31, 33, 34).contains(c[0]);
            if (!asks) {
                status = Math.min(got, 0);
            }
            return got;
        }

        private int reply(int[] c) {
            switch (c[0]) {
                case 0: return room(c[1], c[2], c[3], c[4], c[5]);
                case 1: return rooms(c[1], c[2]);
                case 2: return lay(c[1], c[2], c[3]);
                case 3: return tear(c[1], c[2], c[3]);
                case 4: return cut(c[1], c[2], c[3], c[4]);
                case 5: return put(c[1], c[2], c[3]);
                case 6: return clear(c[1], c[2]);
                case 7: return place(c[1], c[2]);
                case 8: return block(c[1], c[2]);
                case 10: return warm(c[1], c[2]);
                case 11: return c[1] < 0 || c[1] > 199 ? -1000 : tenths(c[1]);
                case 12: return terms(c[1], c[2], c[3]);
                case 13: return day();
                case 14: return count(c[1]);
                case 15: return site.room(c[1]) == null ? -2 : next(site, c[1]);
                case 16: return take(c[1], c[2]);
                case 17: return way(c[1], c[2]);
                case 18: return home();
                case 19: return comes(c[1], c[2]);
                case 20: return send(c[1], c[2]);
                case 21: return c[1] < 0 || c[1] > 2 ? -1 : sent[c[1]];
                case 22: return c[1] < 0 || c[1] >= list.size() ? -1 : list.get(c[1]);
                case 23: return price(c[1], c[2]);
                case 24: return foretell(c[1], c[2]);
                case 25: return foretold(c[1], c[2]);
                case 26: return last;
                case 27: return heap(c[1], c[2]);
                case 28: return pack(c[1]);
                case 29: return image(c[1]);
                case 30: return back(c[1]);
                case 31: return line(c[1], c[2]);
                case 32: return alter(c[1], c[2], c[3]);
                case 33: return check();
                default: return status;
            }
        }

        private int tenths(int day) {
            for (int d = Math.min(day, 199); d >= 0; d--) {
                if (told.containsKey(d)) {
                    return (int) (told.get(d) * 10.0f);
                }
            }
            return 0;
        }

        private int warmth(Site s, int room, int outside) {
            R r = s.rooms.get(room);
            int base = outside;
            if (r.kind == 1 || r.kind == 5) {
                base = (outside + 80) / 2;
            } else if (r.kind == 2) {
                base = warmth(s, r.in, outside);
            } else if (r.kind == 3) {
                base = outside + 10;
            } else if (r.kind == 4) {
                base = outside + 30;
            }
            for (int held : r.held.values()) {
                base -= held >= 10 && s.blocks.get(held - 10).kind == 2 ? 2 : 0;
            }
            return base;
        }

        private int sides(Site s, B b, boolean straw) {
            int n = 0;
            if (b.room >= 0) {
                for (int held : s.rooms.get(b.room).neighbours(b.place)) {
                    n += held == 1 == straw && held < 10 ? 1 : 0;
                }
            }
            return n;
        }

        private int loss(Site s, B b, int outside) {
            if (b.room < 0) {
                return 0;
            }
            int grams = (b.kind == 2 ? 5 : 3) * Math.max(0, warmth(s, b.room, outside));
            int loss = sides(s, b, false) * grams + sides(s, b, true) * (grams * part / 100);
            loss += s.rooms.get(b.room).wet(b.place) ? wet : 0;
            return Math.min(loss, b.grams);
        }

        private boolean free(Site s, B b) {
            return b.room >= 0 && s.rooms.get(b.room).neighbours(b.place)[5] < 10;
        }

        private int next(Site s, int room) {
            int best = -1;
            int[] bestKey = null;
            for (int n = 0; n < s.blocks.size(); n++) {
                B b = s.blocks.get(n);
                if (b.room == room && free(s, b)) {
                    R r = s.rooms.get(room);
                    int[] key = {-loss(s, b, tenths(s.today)), -r.xyz(b.place)[2], b.place};
                    if (bestKey == null || Arrays.compare(key, bestKey) < 0) {
                        best = n;
                        bestKey = key;
                    }
                }
            }
            return best;
        }

        private List<int[]> melt(Site s, int outside) {
            List<int[]> lines = new ArrayList<>();
            Site before = s.copy();
            for (int n = 0; n < s.blocks.size(); n++) {
                B was = before.blocks.get(n);
                B b = s.blocks.get(n);
                if (was.room < 0) {
                    continue;
                }
                R r = s.rooms.get(was.room);
                R then = before.rooms.get(was.room);
                if (b.kind == 1 && b.spoilt < 0) {
                    boolean spoils = then.wet(was.place);
                    for (int held : then.neighbours(was.place)) {
                        spoils |= held >= 10 && before.blocks.get(held - 10).kind == 2;
                    }
                    b.spoilt = spoils ? s.today : -1;
                }
                int loss = loss(before, was, outside);
                s.melted += loss;
                if (then.led(was.place)) {
                    r.led += loss;
                } else {
                    r.standing += loss;
                }
                b.grams -= loss;
                if (b.grams < least) {
                    s.gone += b.grams;
                    b.grams = 0;
                    r.held.remove(b.place);
                    b.room = -1;
                    b.place = -1;
                }
                if (loss > 0) {
                    lines.add(new int[] {n, was.room, was.place, was.grams, loss, b.grams});
                }
            }
            s.today++;
            return lines;
        }

        private int cutInto(int room, int place, int kind, int grams) {
            B b = new B();
            b.kind = kind;
            b.grams = grams;
            b.room = room;
            b.place = place;
            b.day = site.today;
            b.spoilt = -1;
            site.blocks.add(b);
            site.cut += grams;
            site.rooms.get(room).held.put(place, 9 + site.blocks.size());
            return site.blocks.size() - 1;
        }

        private void remove(Site s, int n) {
            B b = s.blocks.get(n);
            s.sold += b.grams;
            s.rooms.get(b.room).held.remove(b.place);
            b.room = -1;
            b.place = -1;
        }

        private int blocksIn(Site s, int room) {
            int n = 0;
            for (B b : s.blocks) {
                n += b.room >= 0 && (room < 0 || b.room == room) ? 1 : 0;
            }
            return n;
        }

        private int gramsIn(Site s, int room) {
            int n = 0;
            for (B b : s.blocks) {
                n += b.room >= 0 && (room < 0 || b.room == room) ? b.grams : 0;
            }
            return n;
        }

        private int airIn(int room) {
            int n = 0;
            for (B b : site.blocks) {
                n += b.room == room ? sides(site, b, false) : 0;
            }
            return n;
        }

        private int room(int kind, int w, int h, int l, int in) {
            if (kind < 0 || kind > 5 || w < 1 || w > 6 || h < 1 || h > 6 || l < 1 || l > 5) {
                return -1;
            }
            if (kind == 2 ? site.room(in) == null : in != -1) {
                return -1;
            }
            if (site.rooms.size() == 8) {
                return -6;
            }
            R r = new R();
            r.kind = kind;
            r.w = w;
            r.h = h;
            r.l = l;
            r.in = in;
            r.laid = new boolean[l][h];
            site.rooms.add(r);
            return site.rooms.size() - 1;
        }

        private int rooms(int room, int what) {
            if (what < 0 || what > 11) {
                return -1;
            }
            R r = site.room(room);
            if (r == null) {
                return -2;
            }
            int free = 0;
            for (B b : site.blocks) {
                free += b.room == room && free(site, b) ? 1 : 0;
            }
            int[] all = {r.kind, r.w, r.h, r.l, r.in, warmth(site, room, tenths(site.today)), blocksIn(site, room),
                gramsIn(site, room), r.led, r.standing, airIn(room), free};
            return all[what];
        }

        private int lay(int room, int layer, int row) {
            R r = site.room(room);
            if (r == null) {
                return -2;
            }
            if (layer < 0 || layer >= r.l || row < 0 || row >= r.h) {
                return -1;
            }
            if (r.laid[layer][row] || layer > 0 && !r.laid[layer - 1][row]) {
                return -7;
            }
            r.laid[layer][row] = true;
            return 0;
        }

        private int tear(int room, int layer, int row) {
            R r = site.room(room);
            if (r == null) {
                return -2;
            }
            if (layer < 0 || layer >= r.l || row < 0 || row >= r.h) {
                return -1;
            }
            if (!r.laid[layer][row]) {
                return -3;
            }
            for (int z = layer + 1; z < r.l; z++) {
                if (r.laid[z][row]) {
                    return -7;
                }
            }
            for (int place : r.held.keySet()) {
                int[] c = r.xyz(place);
                if (c[1] == row && c[2] == layer) {
                    return -7;
                }
            }
            r.laid[layer][row] = false;
            return 0;
        }

        private int place(int room, int place) {
            R r = site.room(room);
            if (r == null) {
                return -2;
            }
            if (place < 0 || place >= r.w * r.h * r.l) {
                return -1;
            }
            int[] c = r.xyz(place);
            return r.laid[c[2]][c[1]] ? r.held.getOrDefault(place, 0) : -3;
        }

        private int barToPut(int room, int place) {
            int there = place(room, place);
            if (there != 0) {
                return there > 0 ? -4 : there;
            }
            R r = site.rooms.get(room);
            int[] c = r.xyz(place);
            int beneath = r.at(c[0], c[1], c[2] - 1);
            return c[2] == 0 || beneath == 1 || beneath >= 10 ? 0 : -5;
        }

        private int cut(int room, int place, int kind, int grams) {
            if (kind < 0 || kind > 2 || grams < 1000 || grams > 1000000) {
                return -1;
            }
            int bar = barToPut(room, place);
            if (bar != 0) {
                return bar;
            }
            return site.blocks.size() == 300 ? -6 : cutInto(room, place, kind, grams);
        }

        private int put(int room, int place, int what) {
            if (what != 0 && what != 1) {
                return -1;
            }
            int bar = barToPut(room, place);
            if (bar != 0) {
                return bar;
            }
            R r = site.rooms.get(room);
            if (what == 0 && (r.kind == 4 || r.kind == 3 && r.l == 1)) {
                return -7;
            }
            r.held.put(place, what + 1);
            return 0;
        }

        private int clear(int room, int place) {
            int there = place(room, place);
            if (there < 0) {
                return there;
            }
            R r = site.rooms.get(room);
            if (there == 0 || there >= 10 || r.neighbours(place)[5] != 0) {
                return -7;
            }
            r.held.remove(place);
            return 0;
        }

        private int block(int n, int what) {
            if (what < 0 || what > 9) {
                return -1;
            }
            if (n < 0 || n >= site.blocks.size()) {
                return -2;
            }
            B b = site.blocks.get(n);
            int[] all = {b.kind, b.grams, b.room, b.place, b.day, b.spoilt, sides(site, b, false),
                sides(site, b, true), loss(site, b, tenths(site.today)), free(site, b) ? 1 : 0};
            return all[what];
        }

        private int warm(int day, int bits) {
            float value = Float.intBitsToFloat(bits);
            if (day < 0 || day > 199 || value < -60f || value > 60f) {
                return -1;
            }
            if (Float.isNaN(value)) {
                told.remove(day);
            } else {
                told.put(day, value);
            }
            return 0;
        }

        private int terms(int newPart, int newWet, int newLeast) {
            if (newPart < 0 || newPart > 100 || newWet < 0 || newWet > 10000 || newLeast < 1 || newLeast > 1000000) {
                return -1;
            }
            part = newPart;
            wet = newWet;
            least = newLeast;
            return 0;
        }

        private int day() {
            if (site.today == 199) {
                return -7;
            }
            int before = site.melted;
            book = melt(site, tenths(site.today));
            truth = new ArrayList<>();
            for (int[] line : book) {
                truth.add(line.clone());
            }
            return site.melted - before;
        }

        private int count(int what) {
            int led = 0;
            int standing = 0;
            int days = 0;
            for (R r : site.rooms) {
                led += r.led;
                standing += r.standing;
            }
            for (int[] stretch : way) {
                days += stretch[1];
            }
            int[] all = {site.today, site.cut, gramsIn(site, -1), site.sold, site.melted, site.gone, led, standing,
                site.blocks.size(), blocksIn(site, -1), site.rooms.size(), way.size(), days,
                book == null ? 0 : book.size(), heap.size(), list.size()};
            return what < 0 || what > 15 ? -1 : all[what];
        }

        private int take(int room, int n) {
            if (n < 1 || n > 300) {
                return -1;
            }
            if (site.room(room) == null) {
                return -2;
            }
            if (blocksIn(site, room) < n) {
                return -6;
            }
            list = new ArrayList<>();
            int weight = 0;
            for (int i = 0; i < n; i++) {
                int b = next(site, room);
                list.add(b);
                weight += site.blocks.get(b).grams;
                remove(site, b);
            }
            return weight;
        }

        private int way(int kind, int days) {
            if (kind != 3 && kind != 4 || days < 0 || days > 20) {
                return -1;
            }
            if (way.size() == 6) {
                return -6;
            }
            way.add(new int[] {kind, days});
            return way.size();
        }

        private int home() {
            int had = way.size();
            way.clear();
            return had;
        }

        private int arrives(B b) {
            int day = site.today;
            int left = b.grams;
            for (int[] stretch : way) {
                for (int d = 0; d < stretch[1]; d++, day++) {
                    int warmth = tenths(day) + (stretch[0] == 3 ? 10 : 30);
                    left -= Math.min(left, 6 * (b.kind == 2 ? 5 : 3) * Math.max(0, warmth));
                    left = left < least ? 0 : left;
                }
            }
            return left;
        }

        private int comes(int room, int n) {
            if (n < 0 || n > 300) {
                return -1;
            }
            if (site.room(room) == null) {
                return -2;
            }
            if (blocksIn(site, room) < n) {
                return -6;
            }
            Site trial = site.copy();
            int sum = 0;
            for (int i = 0; i < n; i++) {
                int b = next(trial, room);
                sum += arrives(trial.blocks.get(b));
                remove(trial, b);
            }
            return sum;
        }

        private int send(int room, int grams) {
            if (grams < 1 || grams > 100000000) {
                return -1;
            }
            if (site.room(room) == null) {
                return -2;
            }
            int all = blocksIn(site, room);
            Arrays.fill(sent, 0);
            for (int n = 1; n <= all; n++) {
                int sum = comes(room, n);
                if (sum >= grams) {
                    take(room, n);
                    sent[1] = sum;
                    for (int b : list) {
                        B block = site.blocks.get(b);
                        int kind = block.kind == 1 && block.spoilt >= 0 ? 0 : block.kind;
                        sent[2] += (int) ((long) block.grams * price[kind] / 1000L);
                    }
                    return n;
                }
            }
            sent[0] = grams - comes(room, all);
            return -6;
        }

        private int price(int kind, int cents) {
            if (kind < 0 || kind > 2 || cents < 0 || cents > 5000) {
                return -1;
            }
            price[kind] = cents;
            return 0;
        }

        private int[] held(Site s) {
            int[] row = new int[s.rooms.size() + 1];
            for (int r = -1; r < s.rooms.size(); r++) {
                row[r + 1] = gramsIn(s, r);
            }
            return row;
        }

        private int foretell(int days, int back) {
            if (days < 1 || days > 200 || back < 0 || back > 199) {
                return -1;
            }
            Site trial = site.copy();
            foretold = new ArrayList<>();
            foretold.add(held(trial));
            last = blocksIn(trial, -1) == 0 ? trial.today - 1 : -2;
            int n = 0;
            while (n < days && trial.today < 199) {
                melt(trial, tenths(Math.max(0, trial.today - back)));
                n++;
                foretold.add(held(trial));
                if (last == -2 && blocksIn(trial, -1) == 0) {
                    last = trial.today - 1;
                }
            }
            return n;
        }

        private int foretold(int room, int i) {
            if (foretold == null || i < 0 || i >= foretold.size()) {
                return -1;
            }
            int[] row = foretold.get(i);
            return room < -1 || room >= row.length - 1 ? -1 : row[room + 1];
        }

        private int heap(int kind, int grams) {
            if (kind < 0 || kind > 2 || grams < 1000 || grams > 1000000) {
                return -1;
            }
            if (heap.size() == 30) {
                return -6;
            }
            heap.add(new int[] {kind, grams});
            return heap.size();
        }

        private int pack(int room) {
            R r = site.room(room);
            if (r == null) {
                return -2;
            }
            if (heap.size() > r.w * r.h * r.l || heap.size() + site.blocks.size() > 300) {
                return -6;
            }
            boolean allLaid = true;
            for (boolean[] layer : r.laid) {
                for (boolean row : layer) {
                    allLaid &= row;
                }
            }
            if (heap.isEmpty() || !allLaid || !r.held.isEmpty()) {
                return -7;
            }
            boolean small = heap.size() <= 8 && r.w <= 3 && r.h <= 3 && r.l <= 2;
            int i = 0;
            for (int place : small ? bestPlaces(r) : greedyPlaces(r)) {
                cutInto(room, place, heap.get(i)[0], heap.get(i)[1]);
                i++;
            }
            heap.clear();
            return airIn(room);
        }

        /** All sets of PLACES there are, as bits; PLACE 0 is the highest bit, so the FIRST set is the greatest number. */
        private int[] bestPlaces(R r) {
            int places = r.w * r.h * r.l;
            int floor = r.w * r.h;
            int best = -1;
            int bestAir = Integer.MAX_VALUE;
            for (int set = (1 << places) - 1; set > 0; set--) {
                if (Integer.bitCount(set) != heap.size()) {
                    continue;
                }
                R trial = new R();
                trial.w = r.w;
                trial.h = r.h;
                trial.l = r.l;
                boolean stands = true;
                for (int p = 0; p < places; p++) {
                    if ((set >> (places - 1 - p) & 1) != 0) {
                        stands &= p < floor || trial.held.containsKey(p - floor);
                        trial.held.put(p, 10);
                    }
                }
                if (stands && airOf(trial) < bestAir) {
                    best = set;
                    bestAir = airOf(trial);
                }
            }
            int[] found = new int[heap.size()];
            for (int p = 0, n = 0; p < places; p++) {
                if ((best >> (places - 1 - p) & 1) != 0) {
                    found[n++] = p;
                }
            }
            return found;
        }

        private static int airOf(R r) {
            int air = 0;
            for (int place : r.held.keySet()) {
                for (int held : r.neighbours(place)) {
                    air += held == 0 ? 1 : 0;
                }
            }
            return air;
        }

        private int[] greedyPlaces(R r) {
            R trial = r.copy();
            for (int n = 0; n < heap.size(); n++) {
                int[] bestKey = null;
                for (int p = 0; p < r.w * r.h * r.l; p++) {
                    int[] around = trial.neighbours(p);
                    if (trial.held.containsKey(p) || p >= r.w * r.h && around[4] == 0) {
                        continue;
                    }
                    int shut = 0;
                    for (int held : around) {
                        shut += held != 0 ? 1 : 0;
                    }
                    int[] key = {-shut, p};
                    if (bestKey == null || Arrays.compare(key, bestKey) < 0) {
                        bestKey = key;
                    }
                }
                trial.held.put(bestKey[1], 10);
            }
            return trial.held.keySet().stream().mapToInt(p -> p).toArray();
        }

        private int image(int k) {
            if (k < 0 || k > 3) {
                return -1;
            }
            images.put(k, site.copy());
            return 0;
        }

        private int back(int k) {
            if (k < 0 || k > 3) {
                return -1;
            }
            if (!images.containsKey(k)) {
                return -2;
            }
            site = images.get(k).copy();
            book = null;
            return 0;
        }

        private int line(int i, int what) {
            if (what < 0 || what > 5) {
                return -1;
            }
            return book == null || i < 0 || i >= book.size() ? -2 : book.get(i)[what];
        }

        private int alter(int i, int what, int mask) {
            if (what < 0 || what > 5 || mask == 0) {
                return -1;
            }
            if (book == null || i < 0 || i >= book.size()) {
                return -2;
            }
            book.get(i)[what] ^= mask;
            return 0;
        }

        private int check() {
            if (book == null) {
                return -7;
            }
            for (int i = 0; i < book.size(); i++) {
                if (!Arrays.equals(book.get(i), truth.get(i))) {
                    return i;
                }
            }
            return -1;
        }
    }
}
