/** Promises 9 to 13: hours, promise, plan, planned, delays. */
public final class OrdersTest {
    private static final int UNKNOWN = Bindery.UNKNOWN, OUTSIDE = Bindery.OUTSIDE, NOT = Bindery.NOT;
    private static final Check C = new Check();

    public static void main(String[] args) {
        hours();
        promise();
        plan();
        ties();
        planned();
        delays();
        C.end();
    }

    private static void hours() {
        Bindery x = new Bindery();
        C.due("hours without a book", x.hours(0, 0, 99), UNKNOWN);
        x.book();
        C.due("hours at bench 5", x.hours(0, 5, 99), UNKNOWN);
        C.due("hours at bench -1", x.hours(0, -1, 1), UNKNOWN);
        C.due("hours -1", x.hours(0, 0, -1), OUTSIDE);
        C.due("hours 51", x.hours(0, 0, 51), OUTSIDE);
        x.plan(1);
        C.due("hours: 1 at each bench at first", x.planned(0, 1), 5);
        C.due("hours 50", x.hours(0, 0, 50), 1);
        C.due("hours 0", x.hours(0, 4, 0), 1);
        C.due("hours 7", x.hours(0, 2, 7), 1);
        x.plan(1);
        C.due("hours: the end", x.planned(0, 1), 59);
    }

    private static void promise() {
        Bindery x = new Bindery();
        C.due("promise without a book", x.promise(0, 99, 0, 0), UNKNOWN);
        x.book();
        C.due("promise: dries -1", x.promise(0, -1, 0, 0), OUTSIDE);
        C.due("promise: dries 31", x.promise(0, 31, 0, 0), OUTSIDE);
        C.due("promise: hour -1", x.promise(0, 0, -1, 0), OUTSIDE);
        C.due("promise: hour 2001", x.promise(0, 0, 2001, 0), OUTSIDE);
        C.due("promise: price -1", x.promise(0, 0, 0, -1), OUTSIDE);
        C.due("promise: price 101", x.promise(0, 30, 0, 101), OUTSIDE);
        C.due("promise: refused, no cost", x.plan(1), 0);
        C.due("promise: refused, no drying", x.planned(0, 1), 5);
        C.due("promise: the most", x.promise(0, 30, 2000, 100), 1);
        C.due("promise: in time", x.plan(1), 0);
        C.due("promise: it dries", x.planned(0, 1), 35);
        C.due("promise: hour 0", x.promise(0, 30, 0, 100), 1);
        C.due("promise: 35 hours late", x.plan(1), 3500);
        C.due("promise: the least", x.promise(0, 0, 0, 0), 1);
        C.due("promise: no price", x.plan(1), 0);
        x.promise(0, 0, 5, 9);
        C.due("promise: just in time", x.plan(1), 0);
        x.promise(0, 0, 4, 9);
        C.due("promise: one late", x.plan(1), 9);
    }

    private static void plan() {
        Bindery x = new Bindery();
        C.due("plan of none, without books", x.plan(0), OUTSIDE);
        C.due("plan of a bit of no book", x.plan(1), UNKNOWN);
        for (int i = 0; i < 10; i++) {
            x.book();
        }
        C.due("plan of none", x.plan(0), OUTSIDE);
        C.due("plan of eight", x.plan(0xFF), OUTSIDE);
        C.due("plan of ten", x.plan(0x3FF), OUTSIDE);
        C.due("plan: bit 10", x.plan(1 << 10), UNKNOWN);
        C.due("plan: eight and bit 10", x.plan(0x4FF), UNKNOWN);
        C.due("plan: the sign bit", x.plan(Integer.MIN_VALUE), UNKNOWN);
        C.due("plan: refused, none was made", x.planned(0, 0), OUTSIDE);
        C.due("plan of seven", x.plan(0x3F8), 0);
        C.due("plan of seven: the last", x.planned(6, 0), 9);
        C.due("plan of seven: its end", x.planned(6, 1), 11);
        C.due("plan of seven: no eighth", x.planned(7, 0), OUTSIDE);
        // The dear book goes first, though it has the greater number.
        x.promise(0, 0, 5, 1);
        x.promise(9, 0, 5, 2);
        C.due("plan: cost", x.plan(0x201), 1);
        C.due("plan: the dear one first", x.planned(0, 0), 9);
        C.due("plan: then the cheap one", x.planned(1, 0), 0);
        // Glue dries beside the bench: the book behind may use bench 2 meanwhile.
        Bindery y = new Bindery();
        y.book();
        y.book();
        y.promise(0, 10, 15, 50);
        y.promise(1, 0, 16, 1);
        C.due("plan: the book behind waits at bench 3", y.plan(3), 0);
        C.due("plan: drying, first end", y.planned(0, 1), 15);
        C.due("plan: drying, last end", y.planned(1, 1), 16);
        y.promise(1, 10, 2000, 0);
        C.due("plan: both dry", y.plan(3), 0);
        C.due("plan: both dry, last end", y.planned(1, 1), 16);
        // It dries ahead of bench 3, so the book behind comes to that bench at 14.
        y.hours(1, 3, 5);
        y.promise(1, 0, 2000, 0);
        C.due("plan: it dries ahead of bench 3", y.plan(3), 0);
        C.due("plan: it dries ahead of bench 3, last end", y.planned(1, 1), 20);
    }

    private static void ties() {
        // Equal costs: the least last end, though the other order begins with the lesser number.
        Bindery x = new Bindery();
        x.book();
        x.book();
        x.hours(0, 0, 10);
        x.hours(0, 4, 1);
        x.hours(1, 0, 1);
        x.hours(1, 4, 10);
        C.due("ties: cost", x.plan(3), 0);
        C.due("ties: least last end, first", x.planned(0, 0), 1);
        C.due("ties: least last end", x.planned(1, 1), 15);
        // The cost is ahead of the last end.
        x.promise(0, 0, 14, 1);
        C.due("ties: cost ahead of end", x.plan(3), 0);
        C.due("ties: cost ahead of end, first", x.planned(0, 0), 0);
        C.due("ties: cost ahead of end, last end", x.planned(1, 1), 24);
        // All alike: by number.
        Bindery y = new Bindery();
        for (int i = 0; i < 5; i++) {
            y.book();
        }
        y.plan(0x1D);
        int[] numbers = {0, 2, 3, 4};
        for (int i = 0; i < 4; i++) {
            C.due("ties: by number", y.planned(i, 0), numbers[i]);
            C.due("ties: ends", y.planned(i, 1), 5 + i);
        }
    }

    private static void planned() {
        Bindery x = new Bindery();
        C.due("planned ahead of a plan", x.planned(0, 0), OUTSIDE);
        x.book();
        x.book();
        x.plan(3);
        C.due("planned: book", x.planned(1, 0), 1);
        C.due("planned: end", x.planned(1, 1), 6);
        C.due("planned: place 2", x.planned(2, 0), OUTSIDE);
        C.due("planned: place -1", x.planned(-1, 0), OUTSIDE);
        C.due("planned: what 2", x.planned(0, 2), OUTSIDE);
        C.due("planned: what -1", x.planned(0, -1), OUTSIDE);
        x.hours(1, 0, 50);
        x.promise(0, 30, 0, 100);
        x.book();
        C.due("planned: as all was then", x.planned(1, 1), 6);
        x.plan(0);
        x.plan(8);
        C.due("planned: a refused plan is none", x.planned(1, 0), 1);
        x.plan(4);
        C.due("planned: the last plan", x.planned(0, 0), 2);
        C.due("planned: the last plan is shorter", x.planned(1, 0), OUTSIDE);
    }

    private static void delays() {
        Bindery x = new Bindery();
        C.due("delays without a book", x.delays(0), UNKNOWN);
        x.book();
        C.due("delays ahead of a plan", x.delays(0), NOT);
        for (int i = 0; i < 3; i++) {
            x.book();
        }
        x.hours(3, 0, 50);
        x.promise(0, 0, 5, 100);
        x.promise(2, 0, 6, 100);
        C.due("delays: the plan", x.plan(0xD), 0);
        C.due("delays: the slow one last", x.planned(2, 0), 3);
        C.due("delays of the first", x.delays(0), 0);
        C.due("delays of the second", x.delays(2), 1);
        C.due("delays of the last", x.delays(3), 5);
        C.due("delays of one outside", x.delays(1), NOT);
        C.due("delays of no book", x.delays(4), UNKNOWN);
        C.due("delays of book -1", x.delays(-1), UNKNOWN);
        x.hours(3, 0, 0);
        x.hours(0, 0, 50);
        C.due("delays: as all was then", x.delays(3), 5);
        C.due("delays: asked again", x.delays(2), 1);
        C.due("delays: the plan stays", x.planned(2, 1), 56);
        // A book behind that still comes in time at every bench is not delayed.
        Bindery y = new Bindery();
        for (int i = 0; i < 3; i++) {
            y.book();
        }
        for (int bench = 0; bench < 5; bench++) {
            y.hours(2, bench, 0);
        }
        y.hours(0, 0, 3);
        y.promise(0, 0, 7, 100);
        y.plan(7);
        C.due("delays: a book without hours delays nobody", y.delays(2), 0);
    }
}
