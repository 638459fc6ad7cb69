/** The edges of promises 1 to 8, a test for each sentence of the document that names one. */
public final class BooksEdgesTest {
    private static final int UNKNOWN = Bindery.UNKNOWN, OUTSIDE = Bindery.OUTSIDE, NOT = Bindery.NOT, FULL = Bindery.FULL;
    private static final int DONE = 5;
    private static final Check C = new Check();
    private static final Shop FRESH = Shops.fresh(C), BUSY = Shops.busy(C), CROWDED = Shops.full(C);

    public static void main(String[] args) {
        promise1NothingElse();
        promise1AtFirst();
        promise2Books();
        promise3Taken();
        promise3Refused();
        promise4Taken();
        promise4Refused();
        promise5Taken();
        promise5Refused();
        promise6Told();
        promise7There();
        promise8Counted();
        promise8Refused();
        C.end();
    }

    private static void promise1NothingElse() {
        for (int what = 0; what <= 6; what++) {
            int asked = what;
            FRESH.keeps("promise 1: nothing is counted, count " + what, 0, x -> x.count(asked));
        }
        C.due("promise 1: the first book", FRESH.open().book(), 0);
        C.due("promise 1: the first skin", FRESH.open().skin(1, 1, 0), 0);
        C.due("promise 1: the first sign", FRESH.open().sign(0), 1);
        C.due("promise 1: the first rate", FRESH.open().rate(0, 0, 0), 1);
        C.due("promise 1: day 0", FRESH.open().days(1), 1);
        FRESH.keeps("promise 1: no text to wipe", 0, x -> x.wipe());
        FRESH.keeps("promise 1: no plan", OUTSIDE, x -> x.planned(0, 0));
        FRESH.keeps("promise 1: no lines", OUTSIDE, x -> x.line(0));
        FRESH.keeps("promise 1: no wages", 0, x -> x.wages(0, 1000, 1000));
    }

    private static void promise1AtFirst() {
        Bindery x = FRESH.open();
        C.due("promise 1: the gap is 3 wide at first", x.width(0, 1), 3);
        for (int letter = 1; letter <= 26; letter++) {
            C.due("promise 1: a letter is 5 wide at first", x.width(letter, 1), 5);
            C.due("promise 1: a letter is sharp at first", x.sharpen(letter), 0);
        }
        C.due("promise 1: LAST is 100 at first", x.last(1), 100);
    }

    private static void promise2Books() {
        Bindery x = FRESH.open();
        for (int number = 0; number < 10; number++) {
            C.due("promise 2: numbered from 0", x.book(), number);
            C.due("promise 2: at bench 0", x.told(number, 0), 0);
            C.due("promise 2: without gatherings", x.told(number, 1), 0);
            C.due("promise 2: no leaves there", x.told(number, 2), 0);
            C.due("promise 2: no leaves in all", x.told(number, 3), 0);
            C.due("promise 2: the next is not there yet", x.told(number + 1, 0), UNKNOWN);
        }
        C.due("promise 2: ten", x.count(0), 10);
        C.due("promise 2: ten at most", x.book(), FULL);
        C.due("promise 2: refused, ten", x.count(0), 10);
        CROWDED.keeps("promise 2: FULL", FULL, y -> y.book());
    }

    private static void promise3Taken() {
        for (int leaves = 1; leaves <= 16; leaves++) {
            Bindery x = FRESH.open();
            x.book();
            C.due("promise 3: of " + leaves + " leaves", x.gather(0, leaves), 0);
            C.due("promise 3: all leaves there", x.there(0, 0), (1 << leaves) - 1);
            C.due("promise 3: leaves in all", x.told(0, 3), leaves);
        }
        Bindery x = FRESH.open();
        x.book();
        x.book();
        for (int number = 0; number < 6; number++) {
            C.due("promise 3: numbered from 0", x.gather(1, 16), number);
            C.due("promise 3: one more", x.told(1, 1), number + 1);
        }
        C.due("promise 3: six at most", x.gather(1, 16), FULL);
        C.due("promise 3: another book has its own", x.gather(0, 1), 0);
        C.due("promise 3: none of a crowded one's", CROWDED.open().gather(9, 1), 1);
    }

    private static void promise3Refused() {
        FRESH.keeps("promise 3: no books", UNKNOWN, x -> x.gather(0, 1));
        BUSY.refuses("promise 3: no such book", UNKNOWN, 0, 3, (x, v) -> x.gather(v, 1));
        CROWDED.refuses("promise 3: no such book of ten", UNKNOWN, 0, 9, (x, v) -> x.gather(v, 1));
        BUSY.refuses("promise 3: leaves", OUTSIDE, 1, 16, (x, v) -> x.gather(2, v));
        for (int bench = 1; bench <= DONE; bench++) {
            Shop moved = movedTo(bench);
            moved.keeps("promise 3: at " + bench, NOT, x -> x.gather(0, 1));
            moved.keeps("promise 3: OUTSIDE ahead of NOT at " + bench, OUTSIDE, x -> x.gather(0, 0));
        }
        CROWDED.keeps("promise 3: FULL, 1 leaf", FULL, x -> x.gather(0, 1));
        CROWDED.keeps("promise 3: FULL, 16 leaves", FULL, x -> x.gather(0, 16));
        BUSY.keeps("promise 3: UNKNOWN ahead of OUTSIDE, 0", UNKNOWN, x -> x.gather(4, 0));
        BUSY.keeps("promise 3: UNKNOWN ahead of OUTSIDE, 17", UNKNOWN, x -> x.gather(-1, 17));
        CROWDED.keeps("promise 3: OUTSIDE ahead of FULL, 0", OUTSIDE, x -> x.gather(0, 0));
        CROWDED.keeps("promise 3: OUTSIDE ahead of FULL, 17", OUTSIDE, x -> x.gather(0, 17));
        CROWDED.keeps("promise 3: OUTSIDE ahead of NOT and FULL", OUTSIDE, x -> x.gather(1, 17));
        CROWDED.keeps("promise 3: NOT ahead of FULL", NOT, x -> x.gather(1, 1));
    }

    private static void promise4Taken() {
        for (int leaves = 1; leaves <= 16; leaves++) {
            Bindery x = FRESH.open();
            x.book();
            x.gather(0, leaves);
            int all = (1 << leaves) - 1;
            C.due("promise 4: all of " + leaves + " seen", x.look(0, 0, all), 0);
            C.due("promise 4: none seen", x.look(0, 0, 0), leaves);
            C.due("promise 4: none there then", x.there(0, 0), 0);
            C.due("promise 4: none seen again", x.look(0, 0, 0), 0);
            C.due("promise 4: the last leaf found", x.look(0, 0, 1 << leaves - 1), 1);
            C.due("promise 4: that alone is there", x.there(0, 0), 1 << leaves - 1);
            C.due("promise 4: the others found", x.look(0, 0, all), leaves - 1);
        }
        Bindery x = FRESH.open();
        x.book();
        x.gather(0, 16);
        x.look(0, 0, 0xFF00);
        C.due("promise 4: LOST and FOUND together", x.look(0, 0, 0x00FF), 16);
        x.gather(0, 3);
        C.due("promise 4: another gathering is not looked at by that", x.there(0, 1), 7);
        C.due("promise 4: the last gathering", BUSY.open().look(0, 2, 0), 3);
    }

    private static void promise4Refused() {
        FRESH.keeps("promise 4: no books", UNKNOWN, x -> x.look(0, 0, 0));
        BUSY.keeps("promise 4: no gatherings", UNKNOWN, x -> x.look(3, 0, 0));
        BUSY.refuses("promise 4: no such book", UNKNOWN, 0, 3, (x, v) -> x.look(v, 0, 0));
        BUSY.refuses("promise 4: no such gathering", UNKNOWN, 0, 2, (x, v) -> x.look(0, v, 0));
        CROWDED.refuses("promise 4: no such gathering of six", UNKNOWN, 0, 5, (x, v) -> x.look(0, v, 0));
        // Gatherings of 1, 16 and 5 leaves: each bit beyond, alone and with one that is a leaf.
        int[] leaves = {1, 16, 5};
        for (int gathering = 0; gathering < 3; gathering++) {
            int asked = gathering;
            for (int bit = leaves[gathering]; bit < 32; bit++) {
                int seen = 1 << bit;
                String told = "promise 4: bit " + bit + " of " + leaves[gathering] + " leaves";
                BUSY.keeps(told, OUTSIDE, x -> x.look(0, asked, seen));
                BUSY.keeps(told + " and bit 0", OUTSIDE, x -> x.look(0, asked, seen | 1));
            }
            BUSY.keeps("promise 4: all bits", OUTSIDE, x -> x.look(0, asked, -1));
        }
        BUSY.keeps("promise 4: DONE", NOT, x -> x.look(1, 0, 1));
        BUSY.keeps("promise 4: DONE, as it is believed", NOT, x -> x.look(1, 1, 3));
        BUSY.keeps("promise 4: UNKNOWN ahead of OUTSIDE, book", UNKNOWN, x -> x.look(4, 0, -1));
        BUSY.keeps("promise 4: UNKNOWN ahead of OUTSIDE, gathering", UNKNOWN, x -> x.look(0, 3, -1));
        BUSY.keeps("promise 4: UNKNOWN ahead of NOT", UNKNOWN, x -> x.look(1, 2, 1));
        BUSY.keeps("promise 4: OUTSIDE ahead of NOT", OUTSIDE, x -> x.look(1, 0, 4));
    }

    private static void promise5Taken() {
        Bindery x = FRESH.open();
        x.book();
        for (int gathering = 0; gathering < 6; gathering++) {
            x.gather(0, 1);
        }
        for (int bench = 0; bench < DONE; bench++) {
            // Seen as it is believed, it is looked at none the less.
            for (int gathering = 0; gathering < 6; gathering++) {
                C.due("promise 5: not all of six looked at", x.pass(0), NOT);
                x.look(0, gathering, 1);
            }
            C.due("promise 5: the bench behind " + bench, x.pass(0), bench + 1);
            C.due("promise 5: it is there", x.told(0, 0), bench + 1);
            C.due("promise 5: counted", x.count(2), bench + 1);
        }
        Bindery y = FRESH.open();
        for (int book = 0; book < 10; book++) {
            y.book();
            y.gather(book, 1);
            for (int bench = 0; bench < DONE; bench++) {
                y.look(book, 0, 1);
                y.pass(book);
            }
        }
        C.due("promise 5: all ten done", y.count(2), 50);
        C.due("promise 5: the last of them", y.told(9, 0), DONE);
    }

    private static void promise5Refused() {
        FRESH.keeps("promise 5: no books", UNKNOWN, x -> x.pass(0));
        BUSY.refuses("promise 5: no such book", UNKNOWN, 0, 3, (x, v) -> x.pass(v));
        BUSY.keeps("promise 5: DONE", NOT, x -> x.pass(1));
        BUSY.keeps("promise 5: one of three looked at", NOT, x -> x.pass(0));
        BUSY.keeps("promise 5: one of two looked at", NOT, x -> x.pass(2));
        BUSY.keeps("promise 5: no gatherings", NOT, x -> x.pass(3));
        for (int bench = 1; bench < DONE; bench++) {
            movedTo(bench).keeps("promise 5: looked at ahead of bench " + bench + " alone", NOT, x -> x.pass(0));
        }
        for (int missing = 0; missing < 6; missing++) {
            int left = missing;
            new Shop(C, x -> sixButOne(x, left)).keeps("promise 5: all but " + missing, NOT, x -> x.pass(0));
        }
        Shop another = new Shop(C, x -> {
            x.book();
            x.book();
            x.gather(0, 1);
            x.gather(1, 1);
            x.look(1, 0, 1);
        });
        another.keeps("promise 5: another book looked at", NOT, x -> x.pass(0));
        Shop grown = new Shop(C, x -> {
            x.book();
            x.gather(0, 1);
            x.look(0, 0, 1);
            x.gather(0, 1);
        });
        grown.keeps("promise 5: a gathering more, not looked at", NOT, x -> x.pass(0));
        Bindery y = grown.open();
        y.look(0, 1, 1);
        C.due("promise 5: looked at ahead of that one", y.pass(0), 1);
    }

    private static void promise6Told() {
        FRESH.keeps("promise 6: no books", UNKNOWN, x -> x.told(0, 0));
        BUSY.refuses("promise 6: no such book", UNKNOWN, 0, 3, (x, v) -> x.told(v, 0));
        BUSY.refuses("promise 6: what", OUTSIDE, 0, 3, (x, v) -> x.told(0, v));
        BUSY.keeps("promise 6: UNKNOWN ahead of OUTSIDE, -1", UNKNOWN, x -> x.told(4, -1));
        BUSY.keeps("promise 6: UNKNOWN ahead of OUTSIDE, 4", UNKNOWN, x -> x.told(-1, 4));
        int[][] due = {{1, 3, 18, 22}, {5, 2, 2, 5}, {0, 2, 11, 12}, {0, 0, 0, 0}};
        for (int book = 0; book < 4; book++) {
            for (int what = 0; what < 4; what++) {
                int asked = book, number = what;
                BUSY.keeps("promise 6: told(" + book + ", " + what + ")", due[book][what], x -> x.told(asked, number));
            }
        }
        CROWDED.keeps("promise 6: six gatherings", 6, x -> x.told(0, 1));
        CROWDED.keeps("promise 6: the most leaves there", 96, x -> x.told(0, 2));
        CROWDED.keeps("promise 6: the most leaves in all", 96, x -> x.told(0, 3));
        Bindery x = CROWDED.open();
        for (int gathering = 0; gathering < 6; gathering++) {
            x.look(0, gathering, 0);
        }
        C.due("promise 6: none there", x.told(0, 2), 0);
        C.due("promise 6: in all still", x.told(0, 3), 96);
    }

    private static void promise7There() {
        FRESH.keeps("promise 7: no books", UNKNOWN, x -> x.there(0, 0));
        BUSY.keeps("promise 7: no gatherings", UNKNOWN, x -> x.there(3, 0));
        BUSY.refuses("promise 7: no such book", UNKNOWN, 0, 3, (x, v) -> x.there(v, 0));
        BUSY.refuses("promise 7: no such gathering", UNKNOWN, 0, 2, (x, v) -> x.there(0, v));
        CROWDED.refuses("promise 7: no such gathering of six", UNKNOWN, 0, 5, (x, v) -> x.there(0, v));
        BUSY.keeps("promise 7: none there", 0, x -> x.there(0, 0));
        BUSY.keeps("promise 7: all but leaf 0", 0xFFFE, x -> x.there(0, 1));
        BUSY.keeps("promise 7: as seen last", 0b10011, x -> x.there(0, 2));
        BUSY.keeps("promise 7: of a book that is DONE", 3, x -> x.there(1, 1));
        CROWDED.keeps("promise 7: all of sixteen", 0xFFFF, x -> x.there(0, 5));
    }

    /** What is lost and found is told of the bench where the book was then, and of no other. */
    private static void promise8Counted() {
        Bindery x = FRESH.open();
        x.book();
        x.book();
        x.gather(0, 16);
        for (int bench = 0; bench < DONE; bench++) {
            // All are seen, then as many as the bench's number, then two more: what all found at first is 15 less bench.
            int lost = 16 - bench;
            int found = bench == 0 ? 2 : 15 - bench + 2;
            x.look(0, 0, 0xFFFF);
            x.look(0, 0, (1 << bench) - 1);
            x.look(0, 0, (1 << bench + 2) - 1);
            C.due("promise 8: lost at " + bench, x.gone(0, bench, 0), lost);
            C.due("promise 8: found at " + bench, x.gone(0, bench, 1), found);
            x.pass(0);
            C.due("promise 8: it stays with bench " + bench, x.gone(0, bench, 0), lost);
            if (bench < 4) {
                C.due("promise 8: none lost at the next", x.gone(0, bench + 1, 0), 0);
                C.due("promise 8: none found at the next", x.gone(0, bench + 1, 1), 0);
            }
            C.due("promise 8: another book lost none", x.gone(1, bench, 0), 0);
            C.due("promise 8: another book found none", x.gone(1, bench, 1), 0);
        }
        // The most that can be lost: six gatherings of sixteen.
        Bindery y = CROWDED.open();
        for (int gathering = 0; gathering < 6; gathering++) {
            y.look(0, gathering, 0);
        }
        C.due("promise 8: all lost", y.gone(0, 0, 0), 96);
        C.due("promise 8: none found", y.gone(0, 0, 1), 0);
    }

    private static void promise8Refused() {
        FRESH.keeps("promise 8: no books", UNKNOWN, x -> x.gone(0, 0, 0));
        BUSY.refuses("promise 8: no such book", UNKNOWN, 0, 3, (x, v) -> x.gone(v, 0, 0));
        BUSY.refuses("promise 8: no such bench", UNKNOWN, 0, 4, (x, v) -> x.gone(0, v, 0));
        BUSY.keeps("promise 8: DONE is no bench", UNKNOWN, x -> x.gone(1, DONE, 0));
        BUSY.refuses("promise 8: way", OUTSIDE, 0, 1, (x, v) -> x.gone(0, 0, v));
        BUSY.keeps("promise 8: UNKNOWN ahead of OUTSIDE, book", UNKNOWN, x -> x.gone(4, 0, 2));
        BUSY.keeps("promise 8: UNKNOWN ahead of OUTSIDE, bench", UNKNOWN, x -> x.gone(0, 5, 2));
        BUSY.keeps("promise 8: lost", 4, x -> x.gone(0, 0, 0));
        BUSY.keeps("promise 8: found", 1, x -> x.gone(0, 0, 1));
        BUSY.keeps("promise 8: found at the last bench", 2, x -> x.gone(1, 4, 1));
    }

    private static Shop movedTo(int bench) {
        return new Shop(C, x -> {
            x.book();
            x.gather(0, 2);
            x.gather(0, 16);
            for (int i = 0; i < bench; i++) {
                Shops.move(x, 0);
            }
        });
    }

    private static void sixButOne(Bindery x, int missing) {
        x.book();
        for (int gathering = 0; gathering < 6; gathering++) {
            x.gather(0, 2);
        }
        for (int gathering = 0; gathering < 6; gathering++) {
            if (gathering != missing) {
                x.look(0, gathering, 3);
            }
        }
    }
}
