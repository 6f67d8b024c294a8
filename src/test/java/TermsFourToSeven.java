/** The boundaries that Terms IV to VII name: a test for each sentence, at the boundary and on either side of it. */
public final class TermsFourToSeven extends Bounds {
    public static void main(String[] args) {
        termFour();
        theWay();
        termFive();
        termSix();
        termSeven();
        end();
    }

    // Term IV

    private static void termFour() {
        free();
        theNext();
        takenAsAllLiesThen();
    }

    private static void free() {
        says("FREE of a ROOM are its BLOCKS above which no BLOCK lies right away.");
        IceTrade t = with(ROOM, 2, 1, 3);
        due("none", t.rooms(0, 11), 0);
        t.cut(0, 0, PLAIN, 5000);
        due("nothing above", t.block(0, 9), 1);
        due("one", t.rooms(0, 11), 1);
        t.put(0, 2, DRAIN);
        due("a DRAIN above", t.block(0, 9), 1);
        t.clear(0, 2);
        t.put(0, 2, STRAW);
        due("STRAW above", t.block(0, 9), 1);
        t.cut(0, 4, PLAIN, 1000);
        due("a BLOCK two above", t.block(0, 9), 1);
        due("two", t.rooms(0, 11), 2);
        IceTrade column = with(ROOM, 1, 1, 5);
        for (int p = 0; p < 5; p++) {
            column.cut(0, p, PLAIN, 1000);
            due("one FREE of " + (p + 1), column.rooms(0, 11), 1);
            due("the highest", column.block(p, 9), 1);
            due("not the one beneath", p == 0 ? 0 : column.block(p - 1, 9), 0);
        }
        column.take(0, 1);
        due("TAKEN", column.block(4, 9), 0);
        due("the next one beneath", column.block(3, 9), 1);
        IceTrade beside = with(ROOM, 2, 2, 2);
        for (int p = 0; p < 4; p++) {
            beside.cut(0, p, PLAIN, 1000);
        }
        beside.cut(0, 5, PLAIN, 1000);
        int[] isFree = {1, 0, 1, 1, 1};
        for (int b = 0; b < 5; b++) {
            due("BLOCK " + b, beside.block(b, 9), isFree[b]);
        }
    }

    private static void theNext() {
        says("THE NEXT of a ROOM is that FREE one with the greatest LOSS of TODAY; of those alike the one in the highest"
            + " layer, then in the lowest PLACE.");
        IceTrade t = with(ROOM, 5, 1, 3);
        due("none", t.next(0), -1);
        t.cut(0, 4, PLAIN, 5000);
        t.cut(0, 2, PLAIN, 5000);
        t.cut(0, 0, PLAIN, 5000);
        due("alike without WARMTH: the lowest PLACE", t.next(0), 2);
        tell(t, 0, 10);
        due("alike by six sides", t.next(0), 2);
        t.put(0, 5, STRAW);
        due("less by STRAW", t.next(0), 1);
        theNextOfThoseAlike();
        IceTrade weigh = with(ROOM, 3, 1, 1);
        tell(weigh, 0, 600);
        weigh.cut(0, 0, PLAIN, 5000);
        weigh.cut(0, 2, PLAIN, 5001);
        due("at most what it weighs is the LOSS", weigh.next(0), 1);
        IceTrade hidden = with(ROOM, 1, 1, 2);
        tell(hidden, 0, 10);
        hidden.cut(0, 0, SALT, 90000);
        hidden.cut(0, 1, PLAIN, 90000);
        due("the greatest LOSS is not FREE", hidden.next(0), 1);
        IceTrade today = with(ROOM, 3, 1, 2);
        today.put(0, 1, STRAW);
        today.cut(0, 0, PLAIN, 90000);
        today.cut(0, 2, SALT, 90000);
        tell(today, 0, 2);
        tell(today, 1, 9);
        due("LOSS of TODAY: all 0", today.next(0), 0);
        today.day();
        due("of the next day", today.next(0), 1);
        today.take(0, 1);
        due("TAKEN by the LOSS of that day", today.list(0), 1);
    }

    /** All of them have five sides in air: two on the floor side by side, two that lie on another one. */
    private static void theNextOfThoseAlike() {
        IceTrade t = with(ROOM, 6, 1, 3);
        tell(t, 0, 10);
        t.cut(0, 1, PLAIN, 5000);
        t.cut(0, 0, PLAIN, 5000);
        due("the lowest PLACE", t.next(0), 1);
        t.cut(0, 5, PLAIN, 5000);
        t.cut(0, 11, PLAIN, 5000);
        due("the highest layer", t.next(0), 3);
        t.cut(0, 3, PLAIN, 5000);
        t.cut(0, 9, PLAIN, 5000);
        due("of the highest layer the lowest PLACE", t.next(0), 5);
        for (int b : new int[] {0, 1, 3, 5}) {
            due("LOSS of " + b, t.block(b, 8), 5 * 30);
        }
        t.cut(0, 17, PLAIN, 5000);
        due("a higher one yet", t.next(0), 6);
        t.put(0, 4, STRAW);
        t.put(0, 10, STRAW);
        due("the greatest LOSS goes ahead of the layer", t.next(0), 6);
        t.take(0, 1);
        due("those beside STRAW lose less", t.block(3, 8) + t.block(5, 8), 2 * (4 * 30 + 12));
        due("the floor's", t.next(0), 1);
    }

    private static void takenAsAllLiesThen() {
        says("To TAKE n of them: n times THE NEXT, as all lies then.");
        IceTrade t = with(ROOM, 3, 1, 2);
        tell(t, 0, 10);
        t.cut(0, 0, PLAIN, 5000);
        t.cut(0, 1, PLAIN, 5001);
        t.cut(0, 2, PLAIN, 5002);
        t.cut(0, 4, PLAIN, 5003);
        due("all four", t.take(0, 4), 20006);
        // the high one, then an end one, then that which has become an end, or the other: alike, so the lowest PLACE
        int[] order = {3, 0, 1, 2};
        for (int i = 0; i < 4; i++) {
            due("list(" + i + ")", t.list(i), order[i]);
        }
        IceTrade salt = with(ROOM, 6, 1, 1);
        // WARMTH 10 - 6: SALT loses more a side; each one TAKEN makes it warmer for those that stay
        tell(salt, 0, 10);
        for (int p = 0; p < 3; p++) {
            salt.cut(0, 2 * p, SALT, 100 * p + 1000);
        }
        due("LOSS", salt.block(0, 8), 6 * 5 * 4);
        due("two", salt.take(0, 2), 2100);
        due("LOSS then", salt.block(2, 8), 6 * 5 * 8);
        IceTrade small = with(ROOM, 3, 1, 1);
        tell(small, 0, 70);
        // of three alike by weight the LOSS grows as SALT goes: WARMTH 68, 6 x 3 x 68 = 1224, then 70 and 1260
        small.cut(0, 0, SALT, 2100);
        small.cut(0, 2, PLAIN, 1250);
        due("SALT is THE NEXT", small.next(0), 0);
        due("the other", small.block(1, 8), 1224);
        small.take(0, 1);
        due("warmer then, at most what it weighs", small.block(1, 8), 1250);
    }

    // THE WAY

    private static void theWay() {
        stretches();
        sixSidesOnTheWay();
        firstDayIsToday();
        belowLeastOnTheWay();
        behindTheLastDay();
        fewestSent();
        shortOf();
        bill();
    }

    private static void stretches() {
        says("THE WAY: up to 6 STRETCHES, each 0 .. 20 days on a CART or BOAT.");
        IceTrade t = new IceTrade();
        due("days -1", t.way(CART, -1), -1);
        due("days 21", t.way(BOAT, 21), -1);
        due("none yet", t.count(11), 0);
        int[] days = {0, 20, 1, 19, 20, 0};
        for (int n = 0; n < 6; n++) {
            due("kind 2", t.way(2, days[n]), -1);
            due("kind 5", t.way(5, days[n]), -1);
            due("STRETCH " + n, t.way(n % 2 == 0 ? CART : BOAT, days[n]), n + 1);
        }
        due("a seventh", t.way(CART, 0), -6);
        due("STRETCHES", t.count(11), 6);
        due("days", t.count(12), 60);
        t.home();
        for (int n = 0; n < 6; n++) {
            t.way(BOAT, 20);
        }
        due("the most days", t.count(12), 120);
    }

    private static void sixSidesOnTheWay() {
        says("On it a BLOCK is alone: on its first day (TODAY), and on, it loses six sides in air by the WARMTH of a CART"
            + " or BOAT without SALT (as days are OUTSIDE), at most what it weighs");
        int[] outside = {-600, -31, -30, -29, -11, -10, -9, 0, 10, 600};
        for (int tenths : outside) {
            for (int kind = 0; kind < 3; kind++) {
                for (int ride = BOAT; ride <= CART; ride++) {
                    IceTrade t = with(PIT, 2, 1, 1);
                    tell(t, 0, tenths);
                    t.put(0, 1, STRAW);
                    t.cut(0, 0, kind, 90000);
                    t.way(ride, 1);
                    int warmth = Math.max(0, tenths + (ride == BOAT ? 10 : 30));
                    int rate = kind == SALT ? 5 : 3;
                    String how = "kind " + kind + " on " + ride + " at " + tenths;
                    due(how, t.comes(0, 1), 90000 - 6 * rate * warmth);
                }
            }
        }
        IceTrade all = with(ROOM, 1, 1, 1);
        all.terms(40, 200, 1);
        all.cut(0, 0, PLAIN, 1080);
        all.way(BOAT, 5);
        due("180 a day", all.comes(0, 1), 180);
        all.way(BOAT, 1);
        due("just all of it", all.comes(0, 1), 0);
        all.way(CART, 20);
        due("no less than nothing", all.comes(0, 1), 0);
    }

    private static void firstDayIsToday() {
        says("on its first day (TODAY), and on");
        IceTrade t = with(ROOM, 1, 1, 1);
        tell(t, 0, 100);
        tell(t, 1, 20);
        tell(t, 2, -30);
        tell(t, 3, -10);
        t.cut(0, 0, PLAIN, 90000);
        t.way(BOAT, 1);
        due("day 0", t.comes(0, 1), 90000 - 18 * 110);
        t.way(CART, 0);
        due("a STRETCH of no days", t.comes(0, 1), 90000 - 18 * 110);
        t.way(BOAT, 1);
        due("days 0 and 1", t.comes(0, 1), 90000 - 18 * (110 + 30));
        t.way(CART, 2);
        due("days 2 and 3 on a CART", t.comes(0, 1), 90000 - 18 * (110 + 30 + 0 + 20));
        t.take(0, 1);
        t.day();
        t.cut(0, 0, PLAIN, 90000);
        due("from day 1 on", t.comes(0, 1), 90000 - 18 * (30 + 0 + 20 + 20));
        int ahead = t.comes(0, 1);
        tell(t, 0, 600);
        due("a day that is over", t.comes(0, 1), ahead);
    }

    private static void belowLeastOnTheWay() {
        says("at a day's end below LEAST it is nothing. What BLOCKS COME to is what they weigh together at THE WAY's end.");
        IceTrade t = with(ROOM, 3, 1, 1);
        t.cut(0, 0, PLAIN, 1179);
        t.cut(0, 2, PLAIN, 1180);
        t.way(BOAT, 0);
        due("no day's end", t.comes(0, 2), 2359);
        t.terms(40, 200, 5000);
        due("nor with a greater LEAST", t.comes(0, 2), 2359);
        t.terms(40, 200, 1000);
        t.way(BOAT, 1);
        due("999 are nothing, 1000 are not", t.comes(0, 2), 1000);
        due("the first", t.comes(0, 1), 0);
        t.way(BOAT, 1);
        due("820 are nothing", t.comes(0, 2), 0);
        t.terms(40, 200, 820);
        due("LEAST 820", t.comes(0, 2), 820);
        t.terms(40, 200, 819);
        due("LEAST 819", t.comes(0, 2), 819 + 820);
        tell(t, 0, -600);
        t.terms(40, 200, 1180);
        due("below LEAST without LOSS", t.comes(0, 2), 1180);
        due("both lie there", t.rooms(0, 7), 2359);
    }

    private static void behindTheLastDay() {
        says("(Days behind 199 are as 199.)");
        IceTrade t = with(ROOM, 1, 1, 1);
        tell(t, 0, -600);
        tell(t, 198, 10);
        tell(t, 199, 20);
        goTo(t, 198);
        t.cut(0, 0, PLAIN, 90000);
        t.way(BOAT, 1);
        due("day 198", t.comes(0, 1), 90000 - 18 * 20);
        t.way(BOAT, 1);
        due("day 199", t.comes(0, 1), 90000 - 18 * (20 + 30));
        t.way(BOAT, 1);
        due("one more", t.comes(0, 1), 90000 - 18 * (20 + 2 * 30));
        t.way(BOAT, 20);
        due("twenty more", t.comes(0, 1), 90000 - 18 * (20 + 22 * 30));
        t.home();
        t.day();
        t.way(CART, 2);
        int left = t.block(0, 1);
        due("from day 199 on", t.comes(0, 1), left - 18 * 2 * 50);
    }

    private static void fewestSent() {
        says("To SEND grams from a ROOM: the fewest BLOCKS, TAKEN one by one, that COME to no less");
        int[][] orders = {{1, 1}, {4999, 1}, {5000, 1}, {5001, 2}, {11000, 2}, {11001, 3}, {18000, 3}, {18001, -6}};
        for (int[] order : orders) {
            IceTrade t = with(ROOM, 5, 1, 1);
            t.cut(0, 0, PLAIN, 5000);
            t.cut(0, 2, PLAIN, 6000);
            t.cut(0, 4, PLAIN, 7000);
            due("send " + order[0], t.send(0, order[0]), order[1]);
            due("TAKEN", t.count(15), Math.max(0, order[1]));
            due("left", t.count(9), 3 - Math.max(0, order[1]));
        }
        IceTrade t = with(ROOM, 5, 1, 1);
        t.way(BOAT, 1);
        t.cut(0, 0, PLAIN, 1100);
        t.cut(0, 2, PLAIN, 1180);
        t.cut(0, 4, PLAIN, 1100);
        due("one that comes to nothing is among them", t.send(0, 1000), 2);
        due("COME to", t.sent(1), 1000);
        due("SOLD", t.count(3), 2280);
        due("the rest comes to nothing", t.send(0, 1), -6);
        due("SHORT of", t.sent(0), 1);
    }

    private static void shortOf() {
        says("if all that can be TAKEN come to less: SHORT of what is missing, and all lies as it did.");
        IceTrade t = with(ROOM, 2, 1, 2);
        t.cut(0, 0, PLAIN, 5000);
        t.cut(0, 2, PLAIN, 6000);
        t.way(BOAT, 1);
        due("10641 of 10640", t.send(0, 10641), -6);
        due("SHORT of", t.sent(0), 1);
        due("COME to", t.sent(1), 0);
        due("BLOCKS", t.rooms(0, 6), 2);
        due("PLACE 0", t.place(0, 0), 10);
        due("PLACE 2", t.place(0, 2), 11);
        due("SOLD", t.count(3), 0);
        due("TAKEN", t.count(15), 0);
        due("the most", t.send(0, 100000000), -6);
        due("SHORT of", t.sent(0), 100000000 - 10640);
        due("just all", t.send(0, 10640), 2);
        due("SHORT of nothing", t.sent(0), 0);
        due("from an empty ROOM", t.send(0, 1), -6);
        due("SHORT of", t.sent(0), 1);
    }

    private static void bill() {
        says("BILL: of each of them what it weighs as it is TAKEN times the PRICE of its kind (a SPOILT CLEAR one's that"
            + " of a plain one) / 1000, cut.");
        IceTrade t = with(ROOM, 5, 1, 1);
        t.price(PLAIN, 1);
        t.way(CART, 1);
        t.cut(0, 0, PLAIN, 1999);
        t.cut(0, 2, PLAIN, 1999);
        t.cut(0, 4, PLAIN, 2000);
        due("send", t.send(0, 3 * 1000), 3);
        due("1 and 1 and 2, each cut", t.sent(2), 4);
        t.cut(0, 0, PLAIN, 1999);
        t.price(PLAIN, 0);
        t.send(0, 1);
        due("for nothing", t.sent(2), 0);
        IceTrade dear = with(ROOM, 6, 6, 5);
        dear.price(SALT, 5000);
        for (int p = 0; p < 100; p++) {
            dear.cut(0, p, SALT, 1000000);
        }
        due("the most grams", dear.send(0, 100000000), 100);
        due("the most of a BILL", dear.sent(2), 500000000);
        spoiltPrice();
    }

    private static void spoiltPrice() {
        IceTrade t = with(ROOM, 6, 1, 1);
        t.price(PLAIN, 100);
        t.price(CLEAR, 300);
        t.price(SALT, 50);
        t.cut(0, 0, CLEAR, 10000);
        t.cut(0, 2, CLEAR, 10000);
        t.cut(0, 3, SALT, 10000);
        t.cut(0, 5, PLAIN, 10000);
        tell(t, 0, -600);
        t.day();
        due("not SPOILT", t.block(0, 5), -1);
        due("SPOILT", t.block(1, 5), 0);
        int[] bills = {3000, 1000, 500, 1000};
        for (int i = 0; i < bills.length; i++) {
            due("send", t.send(0, 1), 1);
            due("BLOCK " + i, t.list(0), i);
            due("BILL of " + i, t.sent(2), bills[i]);
        }
        IceTrade weigh = with(ROOM, 1, 1, 1);
        weigh.price(PLAIN, 1000);
        weigh.cut(0, 0, PLAIN, 9000);
        tell(weigh, 0, 10);
        weigh.day();
        weigh.way(BOAT, 1);
        weigh.send(0, 1);
        due("as it is TAKEN, not as cut, nor as it comes", weigh.sent(2), 8820);
        due("as it comes", weigh.sent(1), 8820 - 18 * 20);
        weigh.price(PLAIN, 1);
        due("the PRICE then", weigh.sent(2), 8820);
    }

    // Term V

    private static void termFive() {
        foretoldBack();
        foretoldNoMore();
        foretoldOneBehindTheOther();
        allAsItWas();
        images();
    }

    private static void foretoldBack() {
        says("FORETOLD are days from TODAY on: as many DAYS, by OUTSIDE of the day so many (BACK) before each (of day 0 if"
            + " there is none; BACK 0: of itself)");
        IceTrade t = with(ROOM, 1, 1, 1);
        int[] told = {10, 20, 40, 80, 160};
        for (int d = 0; d < told.length; d++) {
            tell(t, d, told[d]);
        }
        t.cut(0, 0, PLAIN, 900000);
        for (int back = 0; back <= 5; back++) {
            due("back " + back, t.foretell(5, back), 5);
            int left = 900000;
            for (int i = 1; i <= 5; i++) {
                left -= 18 * told[Math.max(0, i - 1 - back)];
                due("day " + i + " of back " + back, t.foretold(0, i), left);
            }
        }
        due("back 199", t.foretell(5, 199), 5);
        due("day 0 five times", t.foretold(0, 5), 900000 - 18 * 50);
        t.day();
        t.day();
        int now = t.block(0, 1);
        int[] first = {40, 20, 10, 10};
        for (int back = 0; back < 4; back++) {
            t.foretell(1, back);
            due("TODAY 2, back " + back, t.foretold(0, 1), now - 18 * first[back]);
        }
        t.warm(0, NOT_A_NUMBER);
        t.foretell(1, 2);
        due("day 0 is not read", t.foretold(0, 1), now);
    }

    private static void foretoldNoMore() {
        says("as III has it, one behind the other (no more than day() would)");
        IceTrade t = with(ROOM, 1, 1, 1);
        due("from day 0", t.foretell(200, 0), 199);
        due("one less", t.foretell(199, 0), 199);
        due("two less", t.foretell(198, 0), 198);
        due("one", t.foretell(1, 0), 1);
        goTo(t, 197);
        due("from day 197", t.foretell(200, 0), 2);
        due("two", t.foretell(2, 0), 2);
        t.day();
        due("from day 198", t.foretell(200, 0), 1);
        t.day();
        due("from day 199", t.foretell(1, 0), 0);
        due("ahead of the first", t.foretold(0, 0), 0);
        due("no first", t.foretold(0, 1), -1);
        due("none was there", t.last(), 198);
        t.cut(0, 0, PLAIN, 1000);
        due("from day 199", t.foretell(200, 199), 0);
        due("ahead of the first", t.foretold(-1, 0), 1000);
        due("some are left", t.last(), -2);
    }

    /** What is GONE on one day leaves sides in air on the next, and SALT that is GONE cools no more. */
    private static void foretoldOneBehindTheOther() {
        says("one behind the other");
        IceTrade t = with(PIT, 3, 1, 2);
        tell(t, 0, 20);
        t.cut(0, 0, PLAIN, 1000);
        t.cut(0, 1, CLEAR, 20000);
        t.cut(0, 2, SALT, 2000);
        t.cut(0, 4, PLAIN, 9000);
        due("six days", t.foretell(6, 0), 6);
        for (int i = 1; i <= 6; i++) {
            int asForetold = t.foretold(0, i);
            t.day();
            due("day " + i, t.rooms(0, 7), asForetold);
        }
    }

    private static void allAsItWas() {
        says("all is then as it was.");
        IceTrade t = with(PIT, 2, 1, 1);
        tell(t, 0, 20);
        t.cut(0, 0, CLEAR, 1600);
        t.cut(0, 1, SALT, 9000);
        t.day();
        t.alter(1, 4, 3);
        int[] before = new int[16];
        for (int what = 0; what < 16; what++) {
            before[what] = t.count(what);
        }
        int[] block = new int[10];
        for (int what = 0; what < 10; what++) {
            block[what] = t.block(1, what);
        }
        due("days", t.foretell(200, 0), 198);
        due("all would melt", t.foretold(-1, 198), 0);
        for (int what = 0; what < 16; what++) {
            due("count(" + what + ")", t.count(what), before[what]);
        }
        for (int what = 0; what < 10; what++) {
            due("block(1, " + what + ")", t.block(1, what), block[what]);
        }
        due("THE BOOK as it was altered", t.check(), 1);
        due("the PLACE", t.place(0, 1), 11);
    }

    private static void images() {
        says("IMAGES 0 .. 3 have TODAY, all ROOMS with what they hold, all BLOCKS, CUT, SOLD, MELTED, GONE, LED and"
            + " STANDING grams; back() makes all that as it was, and THE BOOK empty.");
        IceTrade t = new IceTrade();
        due("image(-1)", t.image(-1), -1);
        due("image(4)", t.image(4), -1);
        due("of nothing", t.image(0), 0);
        addRoom(t, ROOM, 3, 1, 2, -1);
        tell(t, 0, 10);
        t.put(0, 0, DRAIN);
        t.put(0, 1, STRAW);
        t.cut(0, 2, CLEAR, 1100);
        t.cut(0, 5, PLAIN, 9000);
        addRoom(t, ROOM, 2, 1, 1, -1);
        t.cut(1, 0, PLAIN, 5000);
        t.cut(1, 1, PLAIN, 4000);
        t.take(1, 1);
        t.day();
        int[] counts = new int[11];
        for (int what = 0; what < 11; what++) {
            counts[what] = t.count(what);
            due("count(" + what + ") is told by this run", Math.min(1, counts[what]), 1);
        }
        int led = t.rooms(0, 8);
        int standing = t.rooms(1, 9);
        due("image(3)", t.image(3), 0);
        addRoom(t, BOAT, 1, 1, 1, -1);
        t.cut(2, 0, SALT, 5000);
        t.clear(0, 1);
        t.day();
        t.take(0, 1);
        t.tear(0, 1, 0);
        due("a BOOK", Math.min(1, t.count(13)), 1);
        due("back(3)", t.back(3), 0);
        for (int what = 0; what < 11; what++) {
            due("count(" + what + ")", t.count(what), counts[what]);
        }
        due("LED of ROOM 0", t.rooms(0, 8), led);
        due("STANDING of ROOM 1", t.rooms(1, 9), standing);
        int[] places = {2, 1, 0, 0, 0, 11};
        for (int p = 0; p < 6; p++) {
            due("PLACE " + p, t.place(0, p), places[p]);
        }
        due("no LINES", t.count(13), 0);
        due("no LINE 0", t.line(0, 0), -2);
        due("nothing to alter", t.alter(0, 0, 1), -2);
        due("BLOCK 4 is none yet", t.block(4, 0), -2);
        due("and is the next", t.cut(0, 2, PLAIN, 1000), 4);
        due("back to nothing", t.back(0), 0);
        for (int what = 0; what < 11; what++) {
            due("count(" + what + ") of nothing", t.count(what), 0);
        }
        due("ROOM 0", t.rooms(0, 0), -2);
        due("to a greater one again", t.back(3), 0);
        due("BLOCKS", t.count(8), counts[8]);
        fourImages();
    }

    private static void fourImages() {
        IceTrade t = new IceTrade();
        for (int k = 0; k < 4; k++) {
            due("back(" + k + ") ahead of it", t.back(k), -2);
            due("image(" + k + ")", t.image(k), 0);
            t.room(ROOM, 1, 1, 1, -1);
        }
        due("back(-1)", t.back(-1), -1);
        due("back(4)", t.back(4), -1);
        for (int k = 3; k >= 0; k--) {
            due("back(" + k + ")", t.back(k), 0);
            due("ROOMS", t.count(10), k);
        }
        due("back to the greatest", t.back(3), 0);
        due("kept anew", t.image(0), 0);
        t.back(1);
        t.back(0);
        due("ROOMS", t.count(10), 3);
    }

    // Term VI

    private static void termSix() {
        heapOfThirty();
        packedIntoAnEmptyRoom();
        allWaysOrOneByOne();
        theFirstOfThem();
        oneByOne();
        inTheirOrder();
    }

    private static void heapOfThirty() {
        says("HEAP: up to 30 weights and kinds that are told for pack().");
        IceTrade t = with(ROOM, 6, 5, 1);
        fillHeap(t, 29);
        due("29", t.count(14), 29);
        due("the 30th", t.heap(2, 1000000), 30);
        due("the 31st", t.heap(2, 1000000), -6);
        due("30", t.count(14), 30);
        due("pack", t.pack(0), 30 * 6 - 2 * (5 * 5 + 6 * 4));
        due("empty then", t.count(14), 0);
        due("BLOCKS", t.count(9), 30);
        due("the last one's kind", t.block(29, 0), 2);
        due("its weight", t.block(29, 1), 1000000);
        due("the next HEAP", t.heap(0, 1000), 1);
    }

    private static void packedIntoAnEmptyRoom() {
        says("PACKED into a ROOM whose ROWS are all LAID and that holds nothing");
        IceTrade t = new IceTrade();
        t.room(ROOM, 2, 2, 2, -1);
        fillHeap(t, 3);
        for (int row = 0; row < 4; row++) {
            due("so many ROWS: " + row, t.pack(0), -7);
            t.lay(0, row / 2, row % 2);
        }
        t.put(0, 3, STRAW);
        due("STRAW", t.pack(0), -7);
        t.cut(0, 7, PLAIN, 1000);
        t.take(0, 1);
        t.put(0, 7, DRAIN);
        t.clear(0, 7);
        t.clear(0, 3);
        t.put(0, 0, DRAIN);
        due("a DRAIN", t.pack(0), -7);
        t.clear(0, 0);
        t.cut(0, 0, PLAIN, 1000);
        due("a BLOCK", t.pack(0), -7);
        t.take(0, 1);
        due("nothing", t.pack(0), 14);
        due("BLOCKS", t.rooms(0, 6), 3);
        IceTrade hanging = with(ROOM, 1, 1, 2);
        tell(hanging, 0, 1);
        hanging.cut(0, 0, PLAIN, 1000);
        hanging.put(0, 1, DRAIN);
        hanging.day();
        fillHeap(hanging, 1);
        due("a DRAIN above nothing", hanging.pack(0), -7);
        hanging.clear(0, 1);
        due("nothing", hanging.pack(0), 6);
    }

    private static void packsTo(int width, int rows, int layers, int blocks, int air, int[] places) {
        IceTrade t = with(ROOM, width, rows, layers);
        fillHeap(t, blocks);
        String how = blocks + " into " + width + " x " + rows + " x " + layers;
        due(how, t.pack(0), air);
        due("sides in air", t.rooms(0, 10), air);
        for (int i = 0; i < places.length; i++) {
            due(how + ", PLACE " + places[i], t.place(0, places[i]), 10 + i);
        }
        due("BLOCKS", t.rooms(0, 6), blocks);
        due("all PLACES are looked at", places.length, blocks);
    }

    /** A cube of eight has 24 sides in air; one by one they fill the floor first. */
    private static void allWaysOrOneByOne() {
        says("with at most 8 BLOCKS, width and rows at most 3, layers at most 2, all ways are gone through to let them lie"
            + " in so many PLACES, each on the floor or on another one");
        packsTo(3, 3, 2, 8, 24, new int[] {0, 1, 3, 4, 9, 10, 12, 13});
        packsTo(3, 3, 2, 9, 54 - 2 * 12, new int[] {0, 1, 2, 3, 4, 5, 6, 7, 8});
        packsTo(3, 2, 2, 8, 24, new int[] {0, 1, 3, 4, 6, 7, 9, 10});
        packsTo(4, 2, 2, 8, 48 - 2 * 10, new int[] {0, 1, 2, 3, 4, 5, 6, 7});
        packsTo(2, 3, 2, 8, 24, new int[] {0, 1, 2, 3, 6, 7, 8, 9});
        packsTo(2, 4, 2, 8, 48 - 2 * 10, new int[] {0, 1, 2, 3, 4, 5, 6, 7});
        packsTo(3, 2, 3, 8, 48 - 2 * (4 + 3 + 1 + 2), new int[] {0, 1, 2, 3, 4, 5, 6, 7});
    }

    private static void theFirstOfThem() {
        says("that with the fewest sides in air together, of these the FIRST (that whose PLACES, in their order, are the"
            + " lower ones where they differ first)");
        packsTo(3, 3, 2, 1, 6, new int[] {0});
        packsTo(3, 3, 2, 2, 10, new int[] {0, 1});
        packsTo(3, 3, 2, 3, 14, new int[] {0, 1, 2});
        packsTo(3, 3, 2, 4, 16, new int[] {0, 1, 3, 4});
        packsTo(3, 3, 2, 5, 20, new int[] {0, 1, 2, 3, 4});
        packsTo(3, 3, 2, 6, 22, new int[] {0, 1, 2, 3, 4, 5});
        packsTo(3, 3, 2, 7, 24, new int[] {0, 1, 3, 4, 9, 10, 12});
        packsTo(3, 1, 2, 4, 16, new int[] {0, 1, 3, 4});
        packsTo(1, 3, 2, 4, 16, new int[] {0, 1, 3, 4});
        packsTo(1, 1, 2, 2, 10, new int[] {0, 1});
        packsTo(2, 2, 2, 8, 24, new int[] {0, 1, 2, 3, 4, 5, 6, 7});
        IceTrade twice = with(ROOM, 2, 2, 2);
        addRoom(twice, ROOM, 3, 3, 2, -1);
        fillHeap(twice, 8);
        due("a cube", twice.pack(0), 24);
        fillHeap(twice, 3);
        due("three behind eight", twice.pack(1), 14);
        int[] places = {18, 19, 20, 0};
        for (int p = 0; p < 4; p++) {
            due("PLACE " + p, twice.place(1, p), places[p]);
        }
    }

    private static void oneByOne() {
        says("else BLOCK by BLOCK in the PLACE with something to lie on that has the most sides shut then, of these the"
            + " lowest one.");
        packsTo(4, 1, 2, 1, 6, new int[] {0});
        packsTo(4, 1, 2, 3, 14, new int[] {0, 1, 2});
        packsTo(4, 1, 2, 5, 30 - 2 * 4, new int[] {0, 1, 2, 3, 4});
        packsTo(4, 1, 2, 6, 36 - 2 * 6, new int[] {0, 1, 2, 3, 4, 5});
        packsTo(4, 4, 1, 6, 36 - 2 * 6, new int[] {0, 1, 2, 3, 4, 5});
        // 0 and 1 meet nothing better than the third in the row; each next one meets two
        packsTo(6, 2, 1, 4, 24 - 2 * 3, new int[] {0, 1, 2, 3});
        packsTo(1, 1, 5, 5, 22, new int[] {0, 1, 2, 3, 4});
        packsTo(1, 2, 3, 3, 14, new int[] {0, 1, 2});
    }

    private static void inTheirOrder() {
        says("The HEAP's BLOCKS come to these PLACES, the first one told to the lowest one, and so on. They are cut then.");
        IceTrade t = with(ROOM, 2, 2, 1);
        t.cut(0, 0, PLAIN, 1000);
        t.take(0, 1);
        t.day();
        t.heap(2, 3000);
        t.heap(0, 1000);
        t.heap(1, 2000);
        due("not cut yet", t.count(8), 1);
        due("pack", t.pack(0), 14);
        int[][] want = {{2, 3000, 0, 0, 1}, {0, 1000, 0, 1, 1}, {1, 2000, 0, 2, 1}};
        for (int i = 0; i < 3; i++) {
            for (int what = 0; what < 5; what++) {
                due("block(" + (i + 1) + ", " + what + ")", t.block(i + 1, what), want[i][what]);
            }
        }
        due("CUT", t.count(1), 7000);
        due("BLOCKS ever", t.count(8), 4);
    }

    // Term VII

    private static void termSeven() {
        bookLines();
        bookOfTheLatestDay();
    }

    private static void bookLines() {
        says("THE BOOK of the latest day() has a LINE for each BLOCK that lost by it, in their order: its number, ROOM,"
            + " PLACE, what it weighed, its LOSS, and what was left (0 of one that is GONE).");
        IceTrade t = with(ROOM, 3, 1, 1);
        addRoom(t, CELLAR, 1, 1, 1, -1);
        addRoom(t, PIT, 1, 1, 1, -1);
        tell(t, 0, -100);
        t.terms(40, 1, 1000);
        t.cut(2, 0, PLAIN, 1000);
        t.cut(1, 0, PLAIN, 5000);
        due("a LOSS of 1, and one of 0", t.day(), 1);
        dueLines(t, new int[][] {{0, 2, 0, 1000, 1, 0}});
        tell(t, 1, 10);
        t.cut(0, 2, PLAIN, 1180);
        t.cut(0, 0, PLAIN, 1179);
        t.cut(2, 0, PLAIN, 1810);
        due("MELTED", t.day(), 810 + 180 + 180 + 811);
        dueLines(t, new int[][] {{1, 1, 0, 5000, 810, 4190}, {2, 0, 2, 1180, 180, 1000}, {3, 0, 0, 1179, 180, 0},
            {4, 2, 0, 1810, 811, 0}});
        theMostLines();
    }

    private static void dueLines(IceTrade t, int[][] want) {
        due("LINES", t.count(13), want.length);
        for (int i = 0; i < want.length; i++) {
            for (int what = 0; what < 6; what++) {
                due("line(" + i + ", " + what + ")", t.line(i, what), want[i][what]);
            }
        }
        due("LINE -1", t.line(-1, 0), -2);
        due("one LINE more", t.line(want.length, 0), -2);
    }

    /** 300 BLOCKS, one above the other: each has a side in air. */
    private static void theMostLines() {
        IceTrade t = new IceTrade();
        tell(t, 0, 1);
        for (int b = 0; b < 300; b++) {
            if (b % 42 == 0) {
                addRoom(t, ROOM, 6, 2, 4, -1);
            }
            t.cut(b / 42, b % 42, PLAIN, 1000);
        }
        t.day();
        due("LINES", t.count(13), 300);
        due("the last LINE", t.line(299, 0), 299);
        due("its part 5", t.line(299, 5), 0);
        due("one more", t.line(300, 0), -2);
        due("the last LINE altered", t.alter(299, 5, 1), 0);
        due("check()", t.check(), 299);
    }

    private static void bookOfTheLatestDay() {
        says("THE BOOK of the latest day()");
        IceTrade t = with(ROOM, 2, 1, 1);
        tell(t, 0, 1);
        tell(t, 1, -1);
        t.cut(0, 0, PLAIN, 5000);
        t.cut(0, 1, PLAIN, 1000);
        due("none yet", t.count(13), 0);
        t.day();
        due("LINES", t.count(13), 2);
        t.take(0, 1);
        due("of one that was TAKEN since", t.line(0, 5), 4985);
        t.foretell(2, 0);
        t.terms(0, 0, 1);
        due("as it was", t.line(1, 3), 1000);
        t.cut(0, 0, PLAIN, 5000);
        t.day();
        due("a day without LOSS has no LINES", t.count(13), 0);
        tell(t, 2, 1);
        t.day();
        due("a LINE", t.count(13), 1);
        due("of BLOCK 2", t.line(0, 0), 2);
        goTo(t, 199);
        int lines = t.count(13);
        due("LINES of day 198", lines, 1);
        due("REFUSED", t.day(), -7);
        due("THE BOOK stays", t.count(13), lines);
        due("the LINE stays", t.line(0, 3) - t.line(0, 4), t.line(0, 5));
    }
}
