/** The edges of promises 27 to 31 and of the 512 calls, a test for each sentence of the document that names one. */
public final class WagesEdgesTest {
    private static final int UNKNOWN = Bindery.UNKNOWN, OUTSIDE = Bindery.OUTSIDE, FULL = Bindery.FULL;
    private static final Check C = new Check();
    private static final Shop FRESH = Shops.fresh(C), BUSY = Shops.busy(C), CROWDED = Shops.full(C);

    public static void main(String[] args) {
        promise27Days();
        promise27AtMost();
        promise28Taken();
        promise28Refused();
        promise29Refused();
        promise29Days();
        promise29LatestAndLast();
        promise30Refused();
        promise30Days();
        promise30Known();
        promise30Most();
        promise31Count();
        promise31Full();
        lastCall();
        C.end();
    }

    private static void promise27Days() {
        FRESH.refuses("promise 27: n", OUTSIDE, 1, 100, (x, v) -> x.days(v));
        BUSY.refuses("promise 27: n at day 7", OUTSIDE, 1, 100, (x, v) -> x.days(v));
        int[] edges = {1, 2, 99, 100};
        for (int n : edges) {
            Bindery x = FRESH.open();
            C.due("promise 27: " + n + " days", x.days(n), n);
            C.due("promise 27: the day", x.count(3), n);
            C.due("promise 27: they add up", x.days(100), n + 100);
        }
    }

    private static void promise27AtMost() {
        for (int before = 900; before <= 1000; before++) {
            Bindery x = FRESH.open();
            goTo(x, before);
            int left = 1000 - before;
            C.due("promise 27: one day beyond 1000 from " + before, x.days(left + 1), OUTSIDE);
            C.due("promise 27: refused", x.count(3), before);
            if (left > 0) {
                C.due("promise 27: up to 1000 from " + before, x.days(left), 1000);
            }
            C.due("promise 27: no day more", x.days(1), OUTSIDE);
        }
        CROWDED.refuses("promise 27: n at day 1000", OUTSIDE, 1, 100, (x, v) -> x.days(v));
        CROWDED.keeps("promise 27: a day more at day 1000", OUTSIDE, x -> x.days(1));
        CROWDED.keeps("promise 27: 100 days more at day 1000", OUTSIDE, x -> x.days(100));
        new Shop(C, x -> goTo(x, 901)).keeps("promise 27: 100 days at 901", OUTSIDE, x -> x.days(100));
    }

    private static void promise28Taken() {
        for (int bench = 0; bench < 5; bench++) {
            Bindery x = FRESH.open();
            C.due("promise 28: from 0, no pence", x.rate(bench, 0, 0), 1);
            C.due("promise 28: from 0, 500 pence", x.rate(bench, 0, 500), 2);
            C.due("promise 28: from 1000, 1 penny", x.rate(bench, 1000, 1), 3);
            C.due("promise 28: counted", x.count(6), 3);
            for (int other = 0; other < 5; other++) {
                C.due("promise 28: of this bench alone", x.rateAt(other, 999, 0), other == bench ? 500 : 0);
                C.due("promise 28: from 1000 on", x.rateAt(other, 1000, 0), other == bench ? 1 : 0);
            }
        }
        Bindery x = FRESH.open();
        for (int rates = 1; rates <= 30; rates++) {
            C.due("promise 28: how many", x.rate(rates % 5, rates, rates), rates);
        }
        C.due("promise 28: 30 at most", x.rate(0, 0, 0), FULL);
        C.due("promise 28: the thirtieth", x.rateAt(0, 1000, 1000), 30);
        C.due("promise 28: the first", x.rateAt(1, 1, 0), 1);
        C.due("promise 28: the same again is one more", twice(), 2);
    }

    private static int twice() {
        Bindery x = FRESH.open();
        x.rate(1, 1, 1);
        return x.rate(1, 1, 1);
    }

    private static void promise28Refused() {
        BUSY.refuses("promise 28: no such bench", UNKNOWN, 0, 4, (x, v) -> x.rate(v, 0, 9));
        BUSY.refuses("promise 28: from", OUTSIDE, 0, 1000, (x, v) -> x.rate(0, v, 9));
        BUSY.refuses("promise 28: pence", OUTSIDE, 0, 500, (x, v) -> x.rate(0, 0, v));
        BUSY.keeps("promise 28: UNKNOWN ahead of OUTSIDE, from", UNKNOWN, x -> x.rate(5, -1, 9));
        BUSY.keeps("promise 28: UNKNOWN ahead of OUTSIDE, pence", UNKNOWN, x -> x.rate(-1, 0, 501));
        CROWDED.keeps("promise 28: FULL, the least", FULL, x -> x.rate(0, 0, 0));
        CROWDED.keeps("promise 28: FULL, the most", FULL, x -> x.rate(4, 1000, 500));
        CROWDED.keeps("promise 28: UNKNOWN ahead of FULL", UNKNOWN, x -> x.rate(5, 0, 0));
        CROWDED.keeps("promise 28: OUTSIDE ahead of FULL, from", OUTSIDE, x -> x.rate(0, 1001, 0));
        CROWDED.keeps("promise 28: OUTSIDE ahead of FULL, pence", OUTSIDE, x -> x.rate(0, 0, -1));
    }

    private static void promise29Refused() {
        BUSY.refuses("promise 29: no such bench", UNKNOWN, 0, 4, (x, v) -> x.rateAt(v, 0, 0));
        BUSY.refuses("promise 29: d", OUTSIDE, 0, 1000, (x, v) -> x.rateAt(0, v, 0));
        BUSY.refuses("promise 29: t", OUTSIDE, 0, 1000, (x, v) -> x.rateAt(0, 0, v));
        BUSY.keeps("promise 29: UNKNOWN ahead of OUTSIDE, d", UNKNOWN, x -> x.rateAt(5, 1001, 0));
        BUSY.keeps("promise 29: UNKNOWN ahead of OUTSIDE, t", UNKNOWN, x -> x.rateAt(-1, 0, -1));
        FRESH.keeps("promise 29: without one", 0, x -> x.rateAt(0, 0, 0));
        FRESH.keeps("promise 29: without one, the latest", 0, x -> x.rateAt(4, 1000, 1000));
        BUSY.keeps("promise 29: of another bench alone", 0, x -> x.rateAt(3, 1000, 1000));
    }

    /** Of one rate: told at day 50, from day 70 on; then at the ends of what there is. */
    private static void promise29Days() {
        Bindery x = FRESH.open();
        x.days(50);
        x.rate(2, 70, 8);
        int[][] due = {
            {70, 50, 8}, {69, 50, 0}, {70, 49, 0}, {69, 49, 0}, {71, 50, 8}, {70, 51, 8}, {1000, 50, 8}, {70, 1000, 8},
            {1000, 1000, 8}, {0, 1000, 0}, {1000, 0, 0}
        };
        for (int[] row : due) {
            C.due("promise 29: day " + row[0] + " as known at " + row[1], x.rateAt(2, row[0], row[1]), row[2]);
        }
        Bindery first = FRESH.open();
        first.rate(0, 0, 500);
        C.due("promise 29: at day 0 as known at 0", first.rateAt(0, 0, 0), 500);
        Bindery last = FRESH.open();
        goTo(last, 1000);
        last.rate(4, 1000, 500);
        C.due("promise 29: at day 1000 as known at 1000", last.rateAt(4, 1000, 1000), 500);
        C.due("promise 29: at day 999", last.rateAt(4, 999, 1000), 0);
        C.due("promise 29: as known at 999", last.rateAt(4, 1000, 999), 0);
        // From a day that is gone, and from one that is to come.
        Bindery past = FRESH.open();
        past.days(100);
        past.rate(1, 0, 3);
        C.due("promise 29: told later, of a day that is gone", past.rateAt(1, 0, 100), 3);
        C.due("promise 29: not known at that day", past.rateAt(1, 0, 0), 0);
    }

    private static void promise29LatestAndLast() {
        Bindery x = FRESH.open();
        x.rate(0, 20, 1);
        x.rate(0, 10, 2);
        C.due("promise 29: the latest beginning, though told first", x.rateAt(0, 20, 0), 1);
        C.due("promise 29: ahead of it the earlier", x.rateAt(0, 19, 0), 2);
        C.due("promise 29: the earlier from its day on", x.rateAt(0, 10, 0), 2);
        C.due("promise 29: ahead of both none", x.rateAt(0, 9, 0), 0);
        x.rate(0, 20, 3);
        C.due("promise 29: told last, on the same day", x.rateAt(0, 20, 0), 3);
        x.days(1);
        x.rate(0, 20, 4);
        C.due("promise 29: told last, a day later", x.rateAt(0, 20, 1), 4);
        C.due("promise 29: not known a day ahead", x.rateAt(0, 20, 0), 3);
        x.rate(0, 20, 0);
        C.due("promise 29: told last, of no pence", x.rateAt(0, 20, 1), 0);
        x.rate(0, 5, 9);
        C.due("promise 29: an earlier beginning told last does not count", x.rateAt(0, 10, 1), 2);
        C.due("promise 29: it counts ahead of the others", x.rateAt(0, 9, 1), 9);
        x.rate(1, 20, 7);
        C.due("promise 29: another bench does not matter", x.rateAt(0, 20, 1), 0);
    }

    private static void promise30Refused() {
        BUSY.refuses("promise 30: a", OUTSIDE, 0, 1000, (x, v) -> x.wages(v, 5, 5));
        BUSY.refuses("promise 30: b", OUTSIDE, 0, 1000, (x, v) -> x.wages(5, v, 5));
        BUSY.refuses("promise 30: t", OUTSIDE, 0, 1000, (x, v) -> x.wages(0, 5, v));
        BUSY.keeps("promise 30: b ahead of a, and t", OUTSIDE, x -> x.wages(5, 0, 1001));
        FRESH.keeps("promise 30: nothing passed", 0, x -> x.wages(0, 0, 0));
        FRESH.keeps("promise 30: nothing passed, all days", 0, x -> x.wages(0, 1000, 1000));
        BUSY.keeps("promise 30: b ahead of a", 0, x -> x.wages(1000, 0, 1000));
        BUSY.keeps("promise 30: b ahead of a by one", 0, x -> x.wages(3, 2, 1000));
    }

    /** Passes at days 10 and 20, with a rate of 3 and of 5. */
    private static void promise30Days() {
        Bindery x = FRESH.open();
        x.book();
        x.gather(0, 1);
        x.rate(0, 0, 3);
        x.rate(1, 0, 5);
        goTo(x, 10);
        Shops.move(x, 0);
        goTo(x, 20);
        Shops.move(x, 0);
        int[][] due = {
            {10, 10, 3}, {11, 11, 0}, {9, 9, 0}, {20, 20, 5}, {10, 20, 8}, {10, 19, 3}, {11, 20, 5}, {11, 19, 0},
            {0, 1000, 8}, {0, 10, 3}, {20, 1000, 5}, {21, 1000, 0}, {0, 9, 0}, {20, 10, 0}
        };
        for (int[] row : due) {
            C.due("promise 30: from " + row[0] + " to " + row[1], x.wages(row[0], row[1], 1000), row[2]);
        }
        Bindery y = FRESH.open();
        y.book();
        y.gather(0, 1);
        y.rate(0, 0, 3);
        Shops.move(y, 0);
        goTo(y, 1000);
        y.rate(1, 1000, 5);
        Shops.move(y, 0);
        C.due("promise 30: at day 0", y.wages(0, 0, 0), 3);
        C.due("promise 30: at day 1000", y.wages(1000, 1000, 1000), 5);
        C.due("promise 30: at day 1000, as known ahead of it", y.wages(1000, 1000, 999), 0);
        C.due("promise 30: from first to last", y.wages(0, 1000, 1000), 8);
        C.due("promise 30: but the last", y.wages(0, 999, 1000), 3);
        C.due("promise 30: but the first", y.wages(1, 1000, 1000), 5);
    }

    private static void promise30Known() {
        // The bench that was left: a rate of each bench has a digit of its own.
        int[] pence = {1, 5, 25, 125, 500};
        Bindery x = FRESH.open();
        x.book();
        x.gather(0, 2);
        for (int bench = 0; bench < 5; bench++) {
            x.rate(bench, 0, pence[bench]);
        }
        for (int bench = 0; bench < 5; bench++) {
            Shops.move(x, 0);
            C.due("promise 30: bench " + bench + " was left", x.wages(bench, bench, 1000), pence[bench]);
            C.due("promise 30: a refused pass is not paid", x.pass(0), Bindery.NOT);
            x.days(1);
        }
        C.due("promise 30: all benches", x.wages(0, 4, 0), 1 + 5 + 25 + 125 + 500);
        // The rate of the day of the pass, as it was known at t.
        x.rate(2, 2, 100);
        x.rate(3, 4, 400);
        C.due("promise 30: told since, from the day of the pass", x.wages(2, 2, 5), 100);
        C.due("promise 30: as it was known then", x.wages(2, 2, 4), 25);
        C.due("promise 30: from a day behind the pass", x.wages(3, 3, 1000), 125);
        // No rate was known, or is there, when it passed.
        Bindery y = FRESH.open();
        y.book();
        y.gather(0, 1);
        Shops.move(y, 0);
        C.due("promise 30: without a rate", y.wages(0, 0, 1000), 0);
        y.days(1);
        y.rate(0, 1, 9);
        C.due("promise 30: a rate from the next day on", y.wages(0, 1, 1000), 0);
        y.rate(0, 0, 8);
        C.due("promise 30: a rate told behind the pass", y.wages(0, 1, 1), 8);
        C.due("promise 30: not known at day 0", y.wages(0, 1, 0), 0);
    }

    /** Ten books that pass five times each on one day, at 500 pence. */
    private static void promise30Most() {
        Bindery x = FRESH.open();
        for (int bench = 0; bench < 5; bench++) {
            x.rate(bench, 0, 500);
        }
        for (int book = 0; book < 10; book++) {
            x.book();
            x.gather(book, 1);
            for (int bench = 0; bench < 5; bench++) {
                x.look(book, 0, 1);
                x.pass(book);
            }
        }
        C.due("promise 30: all fifty passes", x.wages(0, 0, 0), 25000);
    }

    private static void promise31Count() {
        FRESH.refuses("promise 31: what", OUTSIDE, 0, 6, (x, v) -> x.count(v));
        BUSY.refuses("promise 31: what", OUTSIDE, 0, 6, (x, v) -> x.count(v));
        int[] busy = {4, 3, 6, 7, 11, 4, 5};
        int[] crowded = {10, 6, 6, 1000, 40, 10, 30};
        for (int what = 0; what <= 6; what++) {
            int asked = what;
            FRESH.keeps("promise 31: count(" + what + ") at first", 0, x -> x.count(asked));
            BUSY.keeps("promise 31: count(" + what + ")", busy[what], x -> x.count(asked));
            CROWDED.keeps("promise 31: count(" + what + ") of the most", crowded[what], x -> x.count(asked));
        }
    }

    private static void promise31Full() {
        String[] texts = {"", " ", "a", " a", "a ", "a b", "ab", " a  b ", "a b c d"};
        int[] words = {0, 0, 1, 1, 1, 2, 1, 2, 4};
        for (int i = 0; i < texts.length; i++) {
            Bindery x = FRESH.open();
            Shops.write(x, texts[i]);
            C.due("promise 31: signs of '" + texts[i] + "'", x.count(4), texts[i].length());
            C.due("promise 31: words of '" + texts[i] + "'", x.count(5), words[i]);
        }
        Bindery one = FRESH.open();
        Bindery most = FRESH.open();
        for (int i = 0; i < 40; i++) {
            one.sign(1);
            most.sign(i % 2);
        }
        C.due("promise 31: one word of forty letters", one.count(5), 1);
        C.due("promise 31: twenty words", most.count(5), 20);
    }

    /** The 512th call is answered like any other. */
    private static void lastCall() {
        Bindery x = FRESH.open();
        C.due("call 1", x.book(), 0);
        for (int call = 2; call < 512; call++) {
            C.due("call " + call, x.count(0), 1);
        }
        C.due("the 512th call", x.book(), 1);
    }

    private static void goTo(Bindery x, int day) {
        while (x.count(3) < day) {
            x.days(Math.min(100, day - x.count(3)));
        }
    }
}
