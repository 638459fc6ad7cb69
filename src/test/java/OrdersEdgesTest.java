/** The edges of promises 9 to 13, a test for each sentence of the document that names one. */
public final class OrdersEdgesTest {
    private static final int UNKNOWN = Bindery.UNKNOWN, OUTSIDE = Bindery.OUTSIDE, NOT = Bindery.NOT;
    private static final Check C = new Check();
    private static final Shop FRESH = Shops.fresh(C), BUSY = Shops.busy(C), CROWDED = Shops.full(C);

    public static void main(String[] args) {
        promise9Taken();
        promise9Refused();
        promise10Taken();
        promise10Refused();
        promise11Sizes();
        promise11Refused();
        promise11Ends();
        promise11Costs();
        promise11Ties();
        promise12Planned();
        promise12AsAllWasThen();
        promise13Delays();
        promise13Later();
        promise13AsAllWasThen();
        C.end();
    }

    private static void promise9Taken() {
        int[] edges = {0, 1, 49, 50};
        for (int bench = 0; bench < 5; bench++) {
            Bindery first = books(1);
            freeBut(first, 0, bench);
            C.due("promise 9: plan at first", first.plan(1), 0);
            C.due("promise 9: 1 hour at bench " + bench + " at first", first.planned(0, 1), 1);
            for (int hours : edges) {
                Bindery x = books(2);
                freeBut(x, 0, bench);
                C.due("promise 9: hours " + hours, x.hours(0, bench, 7), 1);
                C.due("promise 9: hours " + hours, x.hours(0, bench, hours), 1);
                x.plan(1);
                C.due("promise 9: " + hours + " hours at bench " + bench, x.planned(0, 1), hours);
                x.plan(2);
                C.due("promise 9: another book has its own", x.planned(0, 1), 5);
            }
        }
    }

    private static void promise9Refused() {
        FRESH.keeps("promise 9: no books", UNKNOWN, x -> x.hours(0, 0, 1));
        BUSY.refuses("promise 9: no such book", UNKNOWN, 0, 3, (x, v) -> x.hours(v, 0, 2));
        CROWDED.refuses("promise 9: no such book of ten", UNKNOWN, 0, 9, (x, v) -> x.hours(v, 0, 2));
        BUSY.refuses("promise 9: no such bench", UNKNOWN, 0, 4, (x, v) -> x.hours(0, v, 2));
        for (int bench = 0; bench < 5; bench++) {
            int asked = bench;
            BUSY.refuses("promise 9: hours", OUTSIDE, 0, 50, (x, v) -> x.hours(2, asked, v));
        }
        BUSY.keeps("promise 9: UNKNOWN ahead of OUTSIDE, book", UNKNOWN, x -> x.hours(4, 0, 51));
        BUSY.keeps("promise 9: UNKNOWN ahead of OUTSIDE, bench", UNKNOWN, x -> x.hours(0, 5, -1));
    }

    private static void promise10Taken() {
        int[] edges = {0, 1, 29, 30};
        for (int dries : edges) {
            Bindery x = books(2);
            C.due("promise 10: dries " + dries, x.promise(0, dries, 2000, 0), 1);
            x.plan(1);
            C.due("promise 10: it dries " + dries + " hours", x.planned(0, 1), 5 + dries);
            x.plan(2);
            C.due("promise 10: another book does not", x.planned(0, 1), 5);
        }
        Bindery x = books(1);
        C.due("promise 10: nothing dries at first", x.plan(1), 0);
        C.due("promise 10: nothing dries at first", x.planned(0, 1), 5);
        C.due("promise 10: hour 0, price 100", x.promise(0, 0, 0, 100), 1);
        C.due("promise 10: 5 hours behind hour 0", x.plan(1), 500);
        C.due("promise 10: price 1", x.promise(0, 0, 0, 1), 1);
        C.due("promise 10: price 1", x.plan(1), 5);
        C.due("promise 10: price 0", x.promise(0, 0, 0, 0), 1);
        C.due("promise 10: no price", x.plan(1), 0);
        C.due("promise 10: hour 4", x.promise(0, 0, 4, 100), 1);
        C.due("promise 10: one hour behind", x.plan(1), 100);
        C.due("promise 10: hour 5", x.promise(0, 0, 5, 100), 1);
        C.due("promise 10: at the promised hour", x.plan(1), 0);
        C.due("promise 10: hour 6", x.promise(0, 0, 6, 100), 1);
        C.due("promise 10: ahead of it nothing is won", x.plan(1), 0);
        C.due("promise 10: hour 2000", x.promise(0, 30, 2000, 100), 1);
        C.due("promise 10: hour 2000", x.plan(1), 0);
    }

    private static void promise10Refused() {
        FRESH.keeps("promise 10: no books", UNKNOWN, x -> x.promise(0, 0, 0, 0));
        BUSY.refuses("promise 10: no such book", UNKNOWN, 0, 3, (x, v) -> x.promise(v, 1, 1, 50));
        CROWDED.refuses("promise 10: no such book of ten", UNKNOWN, 0, 9, (x, v) -> x.promise(v, 1, 1, 50));
        BUSY.refuses("promise 10: dries", OUTSIDE, 0, 30, (x, v) -> x.promise(2, v, 1, 50));
        BUSY.refuses("promise 10: hour", OUTSIDE, 0, 2000, (x, v) -> x.promise(2, 1, v, 50));
        BUSY.refuses("promise 10: price", OUTSIDE, 0, 100, (x, v) -> x.promise(2, 1, 1, v));
        BUSY.keeps("promise 10: UNKNOWN ahead of OUTSIDE, dries", UNKNOWN, x -> x.promise(4, 31, 1, 1));
        BUSY.keeps("promise 10: UNKNOWN ahead of OUTSIDE, hour", UNKNOWN, x -> x.promise(4, 1, 2001, 1));
        BUSY.keeps("promise 10: UNKNOWN ahead of OUTSIDE, price", UNKNOWN, x -> x.promise(4, 1, 1, 101));
    }

    private static void promise11Sizes() {
        for (int set = 1; set < 1 << 10; set++) {
            Bindery x = books(10);
            int size = Integer.bitCount(set);
            C.due("promise 11: a set of " + size, x.plan(set), size > 7 ? OUTSIDE : 0);
            if (size <= 7) {
                C.due("promise 11: its last", x.planned(size - 1, 1), 4 + size);
                C.due("promise 11: no more", x.planned(size, 0), OUTSIDE);
                C.due("promise 11: the first by number", x.planned(0, 0), Integer.numberOfTrailingZeros(set));
            }
        }
        // The same books at any bench, done ones too.
        C.due("promise 11: of all four", BUSY.open().plan(0b1111) >= 0 ? 1 : 0, 1);
    }

    private static void promise11Refused() {
        FRESH.keeps("promise 11: no books, none asked", OUTSIDE, x -> x.plan(0));
        BUSY.keeps("promise 11: none asked", OUTSIDE, x -> x.plan(0));
        CROWDED.keeps("promise 11: none of ten asked", OUTSIDE, x -> x.plan(0));
        int[] tooMany = {0xFF, 0x3FC, 0x2FE, 0x1FF, 0x3FE, 0x3FF};
        for (int set : tooMany) {
            CROWDED.keeps("promise 11: " + Integer.bitCount(set) + " books", OUTSIDE, x -> x.plan(set));
        }
        for (int bit = 0; bit < 32; bit++) {
            int set = 1 << bit;
            FRESH.keeps("promise 11: no books, bit " + bit, UNKNOWN, x -> x.plan(set));
            if (bit >= 4) {
                BUSY.keeps("promise 11: bit " + bit + " of four books", UNKNOWN, x -> x.plan(set));
                BUSY.keeps("promise 11: bits 0 and " + bit + " of four books", UNKNOWN, x -> x.plan(set | 1));
            }
            if (bit >= 10) {
                CROWDED.keeps("promise 11: bit " + bit + " of ten books", UNKNOWN, x -> x.plan(set));
                CROWDED.keeps("promise 11: UNKNOWN ahead of OUTSIDE, bit " + bit, UNKNOWN, x -> x.plan(set | 0xFF));
            }
        }
        CROWDED.keeps("promise 11: UNKNOWN ahead of OUTSIDE, eleven", UNKNOWN, x -> x.plan(0x7FF));
        CROWDED.keeps("promise 11: UNKNOWN ahead of OUTSIDE, all bits", UNKNOWN, x -> x.plan(-1));
    }

    private static void promise11Ends() {
        Bindery free = books(7);
        for (int book = 0; book < 7; book++) {
            freeBut(free, book, -1);
            free.promise(book, 0, 0, 100);
        }
        C.due("promise 11: all begin at hour 0", free.plan(0x7F), 0);
        C.due("promise 11: without hours the last ends at 0", free.planned(6, 1), 0);
        // Book 0 leaves bench 3 at 23, and book 1 comes from bench 2 at 4: what it dries until 23 costs it nothing.
        int[][] due = {{0, 25}, {19, 25}, {20, 26}, {30, 36}};
        for (int[] row : due) {
            Bindery x = books(2);
            x.hours(0, 3, 20);
            x.promise(0, 0, 24, 100);
            x.promise(1, row[0], 2000, 0);
            C.due("promise 11: in time", x.plan(3), 0);
            C.due("promise 11: the first ends", x.planned(0, 1), 24);
            C.due("promise 11: dried " + row[0] + " hours", x.planned(1, 1), row[1]);
        }
        // Behind bench 2 and ahead of bench 3: while book 0 dries, bench 2 is free for 1, bench 3 is not taken by it.
        int[][] ends = {{1, 0, 36}, {2, 20, 36}, {2, 30, 36}, {2, 31, 36}, {2, 32, 37}, {3, 20, 55}, {4, 20, 55}};
        for (int[] row : ends) {
            Bindery x = books(2);
            x.promise(0, 30, 35, 100);
            x.hours(1, row[0], row[1]);
            C.due("promise 11: in time", x.plan(3), 0);
            C.due("promise 11: the first", x.planned(0, 0), 0);
            C.due("promise 11: beside one that dries, bench " + row[0] + " for " + row[1], x.planned(1, 1), row[2]);
        }
        // One at a time at each bench: the second waits for the first where that takes long.
        for (int bench = 0; bench < 5; bench++) {
            Bindery x = books(2);
            x.hours(0, bench, 50);
            x.promise(0, 0, 54, 100);
            C.due("promise 11: in time", x.plan(3), 0);
            C.due("promise 11: waits at bench " + bench, x.planned(1, 1), 55);
        }
        // It has left the bench ahead before it begins at the next, though that is free.
        for (int bench = 0; bench < 5; bench++) {
            Bindery x = books(2);
            x.hours(1, bench, 50);
            x.promise(0, 0, 5, 100);
            C.due("promise 11: in time", x.plan(3), 0);
            C.due("promise 11: begins behind bench " + bench, x.planned(1, 1), 55);
        }
    }

    private static void promise11Costs() {
        Bindery x = books(7);
        for (int book = 0; book < 7; book++) {
            for (int bench = 0; bench < 5; bench++) {
                x.hours(book, bench, 50);
            }
            x.promise(book, 30, 0, 100);
        }
        // 280, 330, .. 580 hours, all behind hour 0.
        C.due("promise 11: the dearest of one", x.plan(64), 28000);
        C.due("promise 11: the dearest", x.plan(127), 301000);
        C.due("promise 11: the latest end", x.planned(6, 1), 580);
        C.due("promise 11: the first end", x.planned(0, 1), 280);
        // The cost is ahead of the last end, by one penny for one hour.
        Bindery y = books(2);
        y.hours(0, 0, 40);
        y.hours(1, 4, 40);
        C.due("promise 11: the least last end", y.plan(3), 0);
        C.due("promise 11: the least last end", y.planned(1, 1), 45);
        C.due("promise 11: the least last end", y.planned(0, 0), 1);
        y.promise(0, 0, 44, 1);
        C.due("promise 11: costs least", y.plan(3), 0);
        C.due("promise 11: costs least, though it ends later", y.planned(0, 0), 0);
        C.due("promise 11: costs least, though it ends later", y.planned(1, 1), 84);
        y.promise(0, 0, 45, 1);
        C.due("promise 11: an hour more, both cost nothing", y.plan(3), 0);
        C.due("promise 11: an hour more, the least last end", y.planned(0, 0), 1);
    }

    private static void promise11Ties() {
        Bindery alike = books(7);
        alike.plan(0x7F);
        order("promise 11: all alike", alike, 0, 1, 2, 3, 4, 5, 6);
        // A default book in place p ends at 5 + p: in place 0 or 1 book 2 is in time.
        Bindery second = books(4);
        second.promise(2, 0, 6, 100);
        C.due("promise 11: first or second", second.plan(0xF), 0);
        order("promise 11: by the first, then by the second", second, 0, 2, 1, 3);
        Bindery first = books(4);
        first.promise(3, 0, 5, 1);
        C.due("promise 11: first alone", first.plan(0xF), 0);
        order("promise 11: by the second, then by the third", first, 3, 0, 1, 2);
        Bindery last = books(4);
        for (int book = 0; book < 4; book++) {
            last.promise(book, 0, 7, book == 1 ? 1 : 2);
        }
        C.due("promise 11: one is late", last.plan(0xF), 1);
        order("promise 11: the cheapest is late", last, 0, 2, 3, 1);
        Bindery high = books(10);
        high.plan(0b1000010010);
        order("promise 11: by number", high, 1, 4, 9);
    }

    private static void promise12Planned() {
        FRESH.keeps("promise 12: no plan, no books", OUTSIDE, x -> x.planned(0, 0));
        Shop unplanned = new Shop(C, x -> {
            for (int book = 0; book < 7; book++) {
                x.book();
            }
            x.plan(0);
            x.plan(128);
        });
        for (int place = -1; place <= 7; place++) {
            int asked = place;
            unplanned.keeps("promise 12: no plan, place " + place, OUTSIDE, x -> x.planned(asked, 0));
            unplanned.keeps("promise 12: no plan, end of " + place, OUTSIDE, x -> x.planned(asked, 1));
        }
        BUSY.refuses("promise 12: place of three", OUTSIDE, 0, 2, (x, v) -> x.planned(v, 0));
        BUSY.refuses("promise 12: end of three", OUTSIDE, 0, 2, (x, v) -> x.planned(v, 1));
        CROWDED.refuses("promise 12: place of seven", OUTSIDE, 0, 6, (x, v) -> x.planned(v, 0));
        CROWDED.refuses("promise 12: end of seven", OUTSIDE, 0, 6, (x, v) -> x.planned(v, 1));
        BUSY.refuses("promise 12: what", OUTSIDE, 0, 1, (x, v) -> x.planned(0, v));
        BUSY.keeps("promise 12: neither a place nor a what", OUTSIDE, x -> x.planned(3, 2));
        Bindery x = CROWDED.open();
        int seen = 0;
        int end = 0;
        for (int place = 0; place < 7; place++) {
            seen |= 1 << x.planned(place, 0);
            C.holds("promise 12: no end ahead of that of the place ahead", x.planned(place, 1) >= end);
            end = x.planned(place, 1);
        }
        C.due("promise 12: each book of the set has a place", seen, 0b1011110110);
    }

    private static void promise12AsAllWasThen() {
        Bindery x = books(3);
        x.promise(2, 0, 5, 9);
        x.plan(5);
        x.promise(2, 30, 2000, 0);
        x.hours(2, 0, 50);
        x.hours(0, 4, 50);
        x.book();
        x.gather(2, 1);
        Shops.move(x, 2);
        x.plan(0);
        x.plan(16);
        x.plan(-1);
        order("promise 12: as all was then", x, 2, 0);
        C.due("promise 12: the first end as all was then", x.planned(0, 1), 5);
        C.due("promise 12: the second end as all was then", x.planned(1, 1), 6);
        C.due("promise 12: planned again", x.plan(5), 0);
        order("promise 12: the plan made last", x, 0, 2);
        C.due("promise 12: the plan made last", x.planned(0, 1), 54);
        C.due("promise 12: a plan of one", x.plan(8), 0);
        order("promise 12: a plan of one", x, 3);
        C.due("promise 12: a plan of four", x.plan(15), 0);
        C.due("promise 12: a plan of four", x.planned(3, 0) >= 0 ? 1 : 0, 1);
        C.due("promise 12: a plan of four", x.planned(4, 0), OUTSIDE);
    }

    private static void promise13Delays() {
        FRESH.keeps("promise 13: no books", UNKNOWN, x -> x.delays(0));
        Shop unplanned = new Shop(C, x -> {
            x.book();
            x.book();
            x.plan(0);
            x.plan(4);
        });
        unplanned.keeps("promise 13: no plan, book 0", NOT, x -> x.delays(0));
        unplanned.keeps("promise 13: no plan, book 1", NOT, x -> x.delays(1));
        unplanned.keeps("promise 13: no plan, UNKNOWN ahead of NOT", UNKNOWN, x -> x.delays(2));
        BUSY.refuses("promise 13: no such book", UNKNOWN, 0, 3, (x, v) -> x.delays(v));
        CROWDED.refuses("promise 13: no such book of ten", UNKNOWN, 0, 9, (x, v) -> x.delays(v));
        BUSY.keeps("promise 13: not in it", NOT, x -> x.delays(1));
        int[] left = {0, 3, 8};
        for (int book : left) {
            CROWDED.keeps("promise 13: not among the seven", NOT, x -> x.delays(book));
        }
        Bindery x = books(10);
        x.plan(1);
        C.due("promise 13: alone it delays nobody", x.delays(0), 0);
        x.plan(1 << 9);
        C.due("promise 13: the plan made last alone", x.delays(0), NOT);
        C.due("promise 13: alone it delays nobody", x.delays(9), 0);
        x.plan(0b1110000011);
        int ahead = 0;
        int[] order = {0, 1, 7, 8, 9};
        for (int book : order) {
            C.due("promise 13: those ahead, alike, are an hour later", x.delays(book), ahead);
            ahead |= 1 << book;
        }
    }

    private static void promise13Later() {
        // Book 2 needs bench 4 alone, where 0 comes at hour 4; 3 dries so long that nobody keeps it from its end.
        int[][] due = {{0, 0}, {4, 0}, {5, 0b0011}, {50, 0b0011}};
        for (int[] row : due) {
            Bindery x = books(4);
            freeBut(x, 2, 4);
            x.hours(2, 4, row[0]);
            x.promise(0, 0, 5, 50);
            x.promise(1, 0, 6, 50);
            x.promise(3, 30, 2000, 0);
            C.due("promise 13: the plan", x.plan(15), 0);
            order("promise 13: the plan", x, 0, 1, 2, 3);
            C.due("promise 13: first with " + row[0] + " hours at bench 4", x.delays(2), row[1]);
        }
        // Those behind it may end later, too, not those ahead alone.
        Bindery y = books(3);
        y.hours(0, 0, 10);
        y.hours(0, 1, 2);
        y.hours(1, 1, 6);
        y.hours(2, 2, 4);
        y.hours(2, 4, 9);
        y.promise(0, 3, 20, 2);
        y.promise(1, 0, 5, 4);
        y.promise(2, 2, 12, 1);
        y.plan(7);
        order("promise 13: the plan", y, 1, 0, 2);
        C.due("promise 13: the first delays nobody", y.delays(1), 0);
        C.due("promise 13: one ahead and one behind", y.delays(0), 0b110);
        C.due("promise 13: both ahead", y.delays(2), 0b011);
    }

    private static void promise13AsAllWasThen() {
        Bindery x = books(3);
        x.hours(2, 0, 50);
        x.plan(0b101);
        order("promise 13: the plan", x, 0, 2);
        C.due("promise 13: the slow one delays", x.delays(2), 0b001);
        x.hours(2, 0, 0);
        x.hours(0, 0, 50);
        x.promise(0, 30, 0, 100);
        x.book();
        C.due("promise 13: as all was then", x.delays(2), 0b001);
        C.due("promise 13: as all was then, the first", x.delays(0), 0);
        C.due("promise 13: a book made since is not in it", x.delays(3), NOT);
        C.due("promise 13: UNKNOWN still", x.delays(4), UNKNOWN);
        C.due("promise 13: a refused plan is none", x.plan(0), OUTSIDE);
        C.due("promise 13: a refused plan is none", x.delays(1), NOT);
        C.due("promise 13: asking changes no end", x.planned(0, 1), 5);
    }

    private static Bindery books(int howMany) {
        Bindery x = new Bindery();
        for (int i = 0; i < howMany; i++) {
            x.book();
        }
        return x;
    }

    /** No hours at any bench but one, which stays as it is. */
    private static void freeBut(Bindery x, int book, int bench) {
        for (int i = 0; i < 5; i++) {
            if (i != bench) {
                x.hours(book, i, 0);
            }
        }
    }

    private static void order(String told, Bindery x, int... books) {
        for (int place = 0; place < books.length; place++) {
            C.due(told + ", place " + place, x.planned(place, 0), books[place]);
        }
        C.due(told + ", no more", x.planned(books.length, 0), OUTSIDE);
    }
}
