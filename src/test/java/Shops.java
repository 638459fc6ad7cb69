/** The states that the tests of the edges begin with. */
final class Shops {
    private Shops() {
    }

    /** Nothing but the object. */
    static Shop fresh(Check check) {
        return new Shop(check, x -> { });
    }

    /**
     * Four books: 0 at bench 1 with one of three gatherings looked at there, 1 done, 2 at bench 0 with one of two
     * looked at, 3 without gatherings. A plan of 0, 2 and 3. A text of four words, broken in three lines when it had
     * three words. Skins 0 (5 by 4) and 1 (3 by 3) of tone 3, 2 (1 by 12) of tone 9. Day 7, five rates, six passes.
     */
    static Shop busy(Check check) {
        return new Shop(check, x -> {
            busyBooks(x);
            busyOrders(x);
            busySpine(x);
            busySkins(x);
        });
    }

    private static void busyBooks(Bindery x) {
        for (int book = 0; book < 4; book++) {
            x.book();
        }
        x.rate(0, 0, 5);
        x.rate(1, 2, 7);
        int[] leaves = {1, 16, 5};
        for (int gathering = 0; gathering < 3; gathering++) {
            x.gather(0, leaves[gathering]);
        }
        x.look(0, 0, 1);
        x.look(0, 1, 0xFFFE);
        x.look(0, 2, 0b10001);
        x.look(0, 2, 0b10011);
        x.days(2);
        x.pass(0);
        x.look(0, 0, 0);
        x.gather(1, 2);
        x.gather(1, 3);
        for (int bench = 0; bench < 5; bench++) {
            x.look(1, 0, bench % 4);
            x.look(1, 1, 7 - bench);
            x.pass(1);
            x.days(1);
        }
        x.gather(2, 4);
        x.gather(2, 8);
        x.look(2, 1, 0x7F);
        x.rate(0, 3, 11);
        x.rate(4, 1, 13);
        x.rate(0, 0, 6);
    }

    private static void busyOrders(Bindery x) {
        x.hours(0, 0, 9);
        x.hours(0, 3, 4);
        x.hours(2, 1, 12);
        x.hours(3, 4, 8);
        x.promise(0, 3, 10, 2);
        x.promise(2, 0, 14, 5);
        x.promise(3, 7, 9, 1);
        x.plan(0b1101);
        // The plan stays as all was then.
        x.hours(2, 2, 20);
        x.promise(0, 4, 11, 3);
    }

    private static void busySpine(Bindery x) {
        x.width(0, 2);
        x.width(1, 3);
        x.width(26, 9);
        write(x, "ab z c");
        x.broken(10, 3);
        write(x, "a dda");
        x.last(9);
        x.stamp();
        x.sharpen(4);
        x.stamp();
    }

    private static void busySkins(Bindery x) {
        x.skin(5, 4, 3);
        x.skin(3, 3, 3);
        x.skin(1, 12, 9);
        x.flaw(0, 1, 1);
        x.flaw(1, 0, 0);
        x.cut(0, 3, 2);
        x.covers(3, 2, 2, 2);
        x.cut(2, 5, 1);
    }

    /**
     * Ten books: 0 at bench 0, 1 at bench 1 and both with six gatherings, 2 done, the others with one gathering at
     * bench 0. A plan of seven, a text of 40 signs that is all used up, six skins of which 0 to 2 have no free place,
     * 30 rates, day 1000.
     */
    static Shop full(Check check) {
        return new Shop(check, x -> {
            fullBooks(x);
            fullSpine(x);
            fullSkins(x);
            fullRates(x);
        });
    }

    private static void fullBooks(Bindery x) {
        for (int book = 0; book < 10; book++) {
            x.book();
            x.hours(book, book % 5, 10 + book);
            x.promise(book, book, 5 * book, 1 + book);
        }
        for (int gathering = 0; gathering < 6; gathering++) {
            x.gather(0, 16);
            x.gather(1, 1 + gathering);
            x.look(1, gathering, 1);
        }
        x.pass(1);
        for (int book = 2; book < 10; book++) {
            x.gather(book, book);
        }
        for (int bench = 0; bench < 5; bench++) {
            x.look(2, 0, bench % 4);
            x.pass(2);
        }
        x.plan(0b1011110110);
    }

    private static void fullSpine(Bindery x) {
        x.last(2);
        for (int i = 0; i < 40; i++) {
            x.sign(i % 4 == 3 ? 0 : 1 + i % 26);
        }
        x.broken(71, 6);
        x.stamp();
    }

    private static void fullSkins(Bindery x) {
        for (int skin = 0; skin < 6; skin++) {
            x.skin(1 + skin, 3, skin / 2);
            x.flaw(skin, skin / 2, 1);
        }
        for (int skin = 0; skin < 3; skin++) {
            for (int i = 0; i < 3 * skin + 2; i++) {
                x.cut(skin, 1, 1);
            }
        }
    }

    private static void fullRates(Bindery x) {
        for (int i = 0; i < 30; i++) {
            x.rate(i % 5, i * 30, 500 - i);
            if (i % 3 == 2) {
                x.days(100);
            }
        }
    }

    /** The letters a to z, and a blank for a gap. */
    static void write(Bindery x, String text) {
        for (char c : text.toCharArray()) {
            x.sign(c == ' ' ? 0 : c - 'a' + 1);
        }
    }

    /** Looks at all gatherings, as they are believed, and passes the book. */
    static int move(Bindery x, int book) {
        for (int gathering = 0; gathering < x.told(book, 1); gathering++) {
            x.look(book, gathering, x.there(book, gathering));
        }
        return x.pass(book);
    }
}
