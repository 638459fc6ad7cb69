/** Promises 27 to 31: days, rate, rateAt, wages, count. */
public final class WagesTest {
    private static final int UNKNOWN = Bindery.UNKNOWN, OUTSIDE = Bindery.OUTSIDE, FULL = Bindery.FULL;
    private static final Check C = new Check();

    public static void main(String[] args) {
        days();
        rate();
        rateAt();
        wages();
        count();
        C.end();
    }

    private static void days() {
        Bindery x = new Bindery();
        C.due("days 0", x.days(0), OUTSIDE);
        C.due("days -1", x.days(-1), OUTSIDE);
        C.due("days 101", x.days(101), OUTSIDE);
        C.due("days: the greatest", x.days(Integer.MAX_VALUE), OUTSIDE);
        C.due("days 1", x.days(1), 1);
        for (int i = 1; i < 10; i++) {
            C.due("days 100", x.days(100), 100 * i + 1);
        }
        C.due("days beyond 1000", x.days(100), OUTSIDE);
        C.due("days: refused", x.count(3), 901);
        C.due("days up to 1000", x.days(99), 1000);
        C.due("days behind 1000", x.days(1), OUTSIDE);
    }

    private static void rate() {
        Bindery x = new Bindery();
        C.due("rate of bench 5", x.rate(5, -1, -1), UNKNOWN);
        C.due("rate of bench -1", x.rate(-1, 0, 0), UNKNOWN);
        C.due("rate from -1", x.rate(0, -1, 0), OUTSIDE);
        C.due("rate from 1001", x.rate(0, 1001, 0), OUTSIDE);
        C.due("rate of -1", x.rate(0, 0, -1), OUTSIDE);
        C.due("rate of 501", x.rate(0, 0, 501), OUTSIDE);
        C.due("rate: refused", x.count(6), 0);
        C.due("rate of 500 from 1000", x.rate(4, 1000, 500), 1);
        C.due("rate of 0 from 0", x.rate(4, 0, 0), 2);
        for (int i = 3; i <= 30; i++) {
            C.due("rate", x.rate(i % 5, i, i), i);
        }
        C.due("rate: UNKNOWN ahead of FULL", x.rate(5, 0, 0), UNKNOWN);
        C.due("rate: OUTSIDE ahead of FULL", x.rate(0, 0, 501), OUTSIDE);
        C.due("rate, one too many", x.rate(0, 1000, 9), FULL);
        C.due("rate: 30", x.count(6), 30);
        C.due("rate: the last", x.rateAt(0, 1000, 0), 30);
    }

    private static void rateAt() {
        Bindery x = new Bindery();
        C.due("rateAt: none", x.rateAt(2, 0, 0), 0);
        x.rate(2, 10, 100);
        x.days(5);
        x.rate(2, 5, 50);
        x.days(5);
        x.rate(2, 10, 200);
        x.rate(2, 10, 300);
        x.rate(2, 7, 70);
        x.rate(3, 0, 9);
        int[][] due = {
            {4, 1000, 0}, {5, 4, 0}, {5, 5, 50}, {6, 1000, 50}, {7, 9, 50}, {7, 10, 70}, {9, 10, 70},
            {10, 0, 100}, {10, 9, 100}, {10, 10, 300}, {1000, 0, 100}, {1000, 1000, 300}
        };
        for (int[] row : due) {
            C.due("rateAt(2, " + row[0] + ", " + row[1] + ")", x.rateAt(2, row[0], row[1]), row[2]);
        }
        C.due("rateAt of another bench", x.rateAt(3, 0, 10), 9);
        C.due("rateAt of a bench without rates", x.rateAt(1, 1000, 1000), 0);
        C.due("rateAt of bench 5", x.rateAt(5, -1, 0), UNKNOWN);
        C.due("rateAt of bench -1", x.rateAt(-1, 0, 0), UNKNOWN);
        C.due("rateAt: d -1", x.rateAt(2, -1, 0), OUTSIDE);
        C.due("rateAt: d 1001", x.rateAt(2, 1001, 0), OUTSIDE);
        C.due("rateAt: t -1", x.rateAt(2, 0, -1), OUTSIDE);
        C.due("rateAt: t 1001", x.rateAt(2, 0, 1001), OUTSIDE);
        x.rate(2, 10, 0);
        C.due("rateAt: told last, of 0", x.rateAt(2, 10, 10), 0);
    }

    private static void wages() {
        Bindery x = new Bindery();
        C.due("wages: a -1", x.wages(-1, 0, 0), OUTSIDE);
        C.due("wages: a 1001", x.wages(1001, 0, 0), OUTSIDE);
        C.due("wages: b -1", x.wages(0, -1, 0), OUTSIDE);
        C.due("wages: b 1001", x.wages(0, 1001, 0), OUTSIDE);
        C.due("wages: t -1", x.wages(0, 0, -1), OUTSIDE);
        C.due("wages: t 1001", x.wages(0, 0, 1001), OUTSIDE);
        for (int book = 0; book < 2; book++) {
            x.book();
            x.gather(book, 1);
        }
        x.rate(0, 0, 3);
        x.rate(1, 0, 20);
        move(x, 0);
        x.pass(0);
        x.days(4);
        x.rate(0, 4, 500);
        move(x, 0);
        move(x, 1);
        x.days(1);
        x.rate(0, 0, 7);
        move(x, 0);
        C.due("wages: day 0, known then", x.wages(0, 0, 0), 3);
        C.due("wages: day 0, known at 5", x.wages(0, 0, 5), 7);
        C.due("wages: day 4, known at 3", x.wages(4, 4, 3), 23);
        C.due("wages: day 4, known at 4", x.wages(4, 4, 4), 520);
        C.due("wages: all, known at 4", x.wages(0, 5, 4), 523);
        C.due("wages: all, known at 1000", x.wages(0, 1000, 1000), 527);
        C.due("wages: days between", x.wages(1, 3, 1000), 0);
        C.due("wages: a bench without a rate", x.wages(5, 5, 1000), 0);
        C.due("wages: a behind b", x.wages(5, 0, 1000), 0);
    }

    private static void count() {
        Bindery x = new Bindery();
        C.due("count -1", x.count(-1), OUTSIDE);
        C.due("count 7", x.count(7), OUTSIDE);
        x.book();
        x.gather(0, 1);
        move(x, 0);
        move(x, 0);
        move(x, 0);
        x.book();
        x.skin(1, 1, 1);
        x.days(40);
        int[] signs = {0, 1, 2, 0, 0, 3, 0};
        for (int sign : signs) {
            x.sign(sign);
        }
        for (int i = 0; i < 5; i++) {
            x.rate(1, 1, 1);
        }
        int[] due = {2, 1, 3, 40, 7, 2, 5};
        for (int what = 0; what < 7; what++) {
            C.due("count(" + what + ")", x.count(what), due[what]);
        }
        x.wipe();
        for (int i = 0; i < 40; i++) {
            x.sign((i + 1) % 2);
        }
        C.due("count: twenty words", x.count(5), 20);
    }

    private static void move(Bindery x, int book) {
        for (int i = 0; i < x.told(book, 1); i++) {
            x.look(book, i, x.there(book, i));
        }
        x.pass(book);
    }
}
