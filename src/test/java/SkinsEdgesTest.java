/** The edges of promises 22 to 26, a test for each sentence of the document that names one. */
public final class SkinsEdgesTest {
    private static final int UNKNOWN = Bindery.UNKNOWN, OUTSIDE = Bindery.OUTSIDE, NOT = Bindery.NOT, FULL = Bindery.FULL;
    private static final int TURNED = 10000;
    private static final Check C = new Check();
    private static final Shop FRESH = Shops.fresh(C), BUSY = Shops.busy(C), CROWDED = Shops.full(C);

    public static void main(String[] args) {
        promise22Taken();
        promise22Refused();
        promise23Flaw();
        promise24Refused();
        promise24JustFits();
        promise24FirstPlace();
        promise24FarPlaces();
        promise24InTheWay();
        promise25Refused();
        promise25AllOrNone();
        promise25LeastNumber();
        promise26Spot();
        promise26Numbers();
        C.end();
    }

    private static void promise22Taken() {
        int[] sides = {1, 2, 11, 12};
        for (int w : sides) {
            for (int h : sides) {
                Bindery x = FRESH.open();
                C.due("promise 22: " + w + " by " + h, x.skin(w, h, 0), 0);
                C.due("promise 22: its last place", x.spot(0, w - 1, h - 1), 0);
                C.due("promise 22: so wide", x.spot(0, w, 0), OUTSIDE);
                C.due("promise 22: so high", x.spot(0, 0, h), OUTSIDE);
            }
        }
        for (int tone = 0; tone <= 9; tone++) {
            Bindery x = FRESH.open();
            C.due("promise 22: of tone " + tone, x.skin(1, 1, tone), 0);
            for (int other = 0; other <= 9; other++) {
                C.due("promise 22: its tone", x.covers(other, 1, 1, 1), other == tone ? 1 : NOT);
            }
        }
        Bindery x = FRESH.open();
        for (int number = 0; number < 6; number++) {
            C.due("promise 22: the next is not there yet", x.spot(number, 0, 0), UNKNOWN);
            C.due("promise 22: numbered from 0", x.skin(1, 1, 9), number);
            C.due("promise 22: counted", x.count(1), number + 1);
        }
        C.due("promise 22: six at most", x.skin(1, 1, 9), FULL);
        C.due("promise 22: six", x.count(1), 6);
        C.due("promise 22: no seventh", x.spot(6, 0, 0), UNKNOWN);
    }

    private static void promise22Refused() {
        BUSY.refuses("promise 22: w", OUTSIDE, 1, 12, (x, v) -> x.skin(v, 1, 0));
        BUSY.refuses("promise 22: h", OUTSIDE, 1, 12, (x, v) -> x.skin(1, v, 0));
        BUSY.refuses("promise 22: tone", OUTSIDE, 0, 9, (x, v) -> x.skin(1, 1, v));
        CROWDED.keeps("promise 22: FULL, the least", FULL, x -> x.skin(1, 1, 0));
        CROWDED.keeps("promise 22: FULL, the greatest", FULL, x -> x.skin(12, 12, 9));
        CROWDED.keeps("promise 22: OUTSIDE ahead of FULL, w", OUTSIDE, x -> x.skin(0, 1, 0));
        CROWDED.keeps("promise 22: OUTSIDE ahead of FULL, h", OUTSIDE, x -> x.skin(1, 13, 0));
        CROWDED.keeps("promise 22: OUTSIDE ahead of FULL, tone", OUTSIDE, x -> x.skin(1, 1, 10));
    }

    private static void promise23Flaw() {
        FRESH.keeps("promise 23: no skins", UNKNOWN, x -> x.flaw(0, 0, 0));
        BUSY.refuses("promise 23: no such skin", UNKNOWN, 0, 2, (x, v) -> x.flaw(v, 0, 0));
        CROWDED.refuses("promise 23: no such skin of six", UNKNOWN, 0, 5, (x, v) -> x.flaw(v, 0, 0));
        // Skin 0 is 5 by 4, skin 2 is 1 by 12.
        BUSY.refuses("promise 23: x of 5", OUTSIDE, 0, 4, (x, v) -> x.flaw(0, v, 3));
        BUSY.refuses("promise 23: y of 4", OUTSIDE, 0, 3, (x, v) -> x.flaw(0, 4, v));
        BUSY.refuses("promise 23: x of 1", OUTSIDE, 0, 0, (x, v) -> x.flaw(2, v, 11));
        BUSY.refuses("promise 23: y of 12", OUTSIDE, 0, 11, (x, v) -> x.flaw(2, 0, v));
        BUSY.keeps("promise 23: UNKNOWN ahead of OUTSIDE", UNKNOWN, x -> x.flaw(3, 12, 12));
        BUSY.keeps("promise 23: it has one", NOT, x -> x.flaw(0, 1, 1));
        BUSY.keeps("promise 23: it is cut, the least corner", NOT, x -> x.flaw(0, 2, 0));
        BUSY.keeps("promise 23: it is cut, the greatest corner", NOT, x -> x.flaw(0, 4, 1));
        Bindery x = FRESH.open();
        x.skin(12, 11, 0);
        int[][] corners = {{0, 0}, {11, 0}, {0, 10}, {11, 10}};
        for (int[] corner : corners) {
            C.due("promise 23: free at first", x.spot(0, corner[0], corner[1]), 0);
            C.due("promise 23: a corner", x.flaw(0, corner[0], corner[1]), 1);
            C.due("promise 23: it has a flaw", x.spot(0, corner[0], corner[1]), 1);
            C.due("promise 23: it has one already", x.flaw(0, corner[0], corner[1]), NOT);
        }
        C.due("promise 23: none beside it", x.spot(0, 1, 0), 0);
        C.due("promise 23: none below it", x.spot(0, 0, 1), 0);
        // Every place may have one, and then there is no cover.
        Bindery y = FRESH.open();
        y.skin(2, 2, 0);
        for (int place = 0; place < 4; place++) {
            C.due("promise 23: each place", y.flaw(0, place % 2, place / 2), 1);
        }
        C.due("promise 23: nothing is free", y.cut(0, 1, 1), NOT);
    }

    private static void promise24Refused() {
        FRESH.keeps("promise 24: no skins", UNKNOWN, x -> x.cut(0, 1, 1));
        BUSY.refuses("promise 24: no such skin", UNKNOWN, 0, 2, (x, v) -> x.cut(v, 1, 1));
        CROWDED.refuses("promise 24: no such skin of six", UNKNOWN, 0, 5, (x, v) -> x.cut(v, 1, 1));
        BUSY.refuses("promise 24: w", OUTSIDE, 1, 12, (x, v) -> x.cut(0, v, 1));
        BUSY.refuses("promise 24: h", OUTSIDE, 1, 12, (x, v) -> x.cut(0, 1, v));
        BUSY.keeps("promise 24: UNKNOWN ahead of OUTSIDE, w", UNKNOWN, x -> x.cut(3, 0, 1));
        BUSY.keeps("promise 24: UNKNOWN ahead of OUTSIDE, h", UNKNOWN, x -> x.cut(-1, 1, 13));
        CROWDED.keeps("promise 24: no place is free", NOT, x -> x.cut(0, 1, 1));
        CROWDED.keeps("promise 24: OUTSIDE ahead of NOT, w", OUTSIDE, x -> x.cut(0, 13, 1));
        CROWDED.keeps("promise 24: OUTSIDE ahead of NOT, h", OUTSIDE, x -> x.cut(0, 1, 0));
        BUSY.keeps("promise 24: neither as it is nor turned", NOT, x -> x.cut(0, 5, 1));
        BUSY.keeps("promise 24: a square", NOT, x -> x.cut(0, 3, 3));
        BUSY.keeps("promise 24: the greatest", NOT, x -> x.cut(0, 12, 12));
    }

    /** Of a skin of 5 by 4: a cover as great as it, and one by one place greater. */
    private static void promise24JustFits() {
        int[][] due = {
            {5, 4, 0}, {4, 5, TURNED}, {5, 5, NOT}, {6, 1, NOT}, {1, 6, NOT}, {5, 1, 0}, {1, 5, TURNED}, {1, 4, 0},
            {4, 4, 0}, {12, 1, NOT}, {1, 12, NOT}, {12, 12, NOT}, {1, 1, 0}, {4, 1, 0}
        };
        for (int[] row : due) {
            Bindery x = FRESH.open();
            x.skin(5, 4, 0);
            C.due("promise 24: " + row[0] + " by " + row[1] + " of 5 by 4", x.cut(0, row[0], row[1]), row[2]);
        }
        int[][] exact = {{1, 1, 0}, {12, 12, 0}, {12, 1, 0}, {1, 12, 0}};
        for (int[] row : exact) {
            Bindery x = FRESH.open();
            x.skin(row[0], row[1], 0);
            C.due("promise 24: all of it", x.cut(0, row[0], row[1]), 0);
            C.due("promise 24: nothing is left", x.cut(0, 1, 1), NOT);
        }
        Bindery high = FRESH.open();
        high.skin(1, 12, 0);
        C.due("promise 24: turned alone, all of it", high.cut(0, 12, 1), TURNED);
        C.due("promise 24: nothing is left", high.cut(0, 1, 1), NOT);
        Bindery wide = FRESH.open();
        wide.skin(12, 1, 0);
        C.due("promise 24: turned alone, all of it", wide.cut(0, 1, 12), TURNED);
        C.due("promise 24: the last of it", wide.spot(0, 11, 0), 2);
    }

    private static void promise24FirstPlace() {
        Bindery x = FRESH.open();
        x.skin(3, 3, 0);
        x.flaw(0, 1, 0);
        C.due("promise 24: the place is ahead of the way", x.cut(0, 2, 1), TURNED);
        C.due("promise 24: the next place", x.cut(0, 2, 1), TURNED + 2);
        C.due("promise 24: as it is does not fit, turned does", x.cut(0, 2, 1), TURNED + 101);
        C.due("promise 24: no place for it", x.cut(0, 2, 1), NOT);
        C.due("promise 24: single places, x first", x.cut(0, 1, 1), 200);
        C.due("promise 24: single places", x.cut(0, 1, 1), 202);
        C.due("promise 24: none", x.cut(0, 1, 1), NOT);
        Bindery y = FRESH.open();
        y.skin(3, 3, 0);
        C.due("promise 24: as it is ahead of turned", y.cut(0, 2, 1), 0);
        C.due("promise 24: the same row, though turned", y.cut(0, 2, 1), TURNED + 2);
        C.due("promise 24: the least y", y.cut(0, 2, 1), 100);
        C.due("promise 24: the last row", y.cut(0, 1, 2), TURNED + 200);
        // A square is as it is, however it is turned.
        Bindery square = FRESH.open();
        square.skin(4, 4, 0);
        int[] corners = {0, 2, 200, 202};
        for (int corner : corners) {
            C.due("promise 24: a square is not turned", square.cut(0, 2, 2), corner);
        }
        C.due("promise 24: no fifth", square.cut(0, 2, 2), NOT);
    }

    private static void promise24FarPlaces() {
        Bindery x = FRESH.open();
        x.skin(12, 12, 0);
        x.cut(0, 12, 10);
        x.cut(0, 11, 2);
        C.due("promise 24: far to the right, turned", x.cut(0, 2, 1), TURNED + 11 + 100 * 10);
        Bindery y = FRESH.open();
        y.skin(12, 12, 0);
        y.cut(0, 12, 11);
        y.cut(0, 10, 1);
        C.due("promise 24: far down", y.cut(0, 2, 1), 10 + 100 * 11);
        Bindery z = FRESH.open();
        z.skin(12, 12, 0);
        z.cut(0, 12, 11);
        z.cut(0, 11, 1);
        C.due("promise 24: not two", z.cut(0, 2, 1), NOT);
        C.due("promise 24: the last place", z.cut(0, 1, 1), 11 + 100 * 11);
        Bindery v = FRESH.open();
        v.skin(12, 1, 0);
        for (int i = 0; i < 12; i++) {
            C.due("promise 24: along x", v.cut(0, 1, 1), i);
        }
        Bindery w = FRESH.open();
        w.skin(1, 12, 0);
        for (int i = 0; i < 12; i++) {
            C.due("promise 24: along y", w.cut(0, 1, 1), 100 * i);
        }
    }

    /** One place that is not free, wherever it is in the cover, is in its way. */
    private static void promise24InTheWay() {
        for (int place = 0; place < 6; place++) {
            Bindery flawed = FRESH.open();
            flawed.skin(3, 2, 0);
            flawed.flaw(0, place % 3, place / 3);
            C.due("promise 24: a flaw in the way", flawed.cut(0, 3, 2), NOT);
            C.due("promise 24: refused, nothing is cut", flawed.spot(0, 2 - place % 3, 1 - place / 3), 0);
            Bindery taken = FRESH.open();
            taken.skin(3, 2, 0);
            for (int i = 0; i < 6; i++) {
                if (i < place) {
                    taken.flaw(0, i % 3, i / 3);
                }
            }
            C.due("promise 24: the first free place", taken.cut(0, 1, 1), place % 3 + 100 * (place / 3));
            C.due("promise 24: a cover in the way", taken.cut(0, 3, 2), NOT);
        }
    }

    private static void promise25Refused() {
        BUSY.refuses("promise 25: tone", OUTSIDE, 0, 9, (x, v) -> x.covers(v, 1, 1, 1));
        BUSY.refuses("promise 25: w", OUTSIDE, 1, 12, (x, v) -> x.covers(3, v, 1, 1));
        BUSY.refuses("promise 25: h", OUTSIDE, 1, 12, (x, v) -> x.covers(3, 1, v, 1));
        BUSY.refuses("promise 25: n", OUTSIDE, 1, 8, (x, v) -> x.covers(3, 1, 1, v));
        FRESH.keeps("promise 25: no skins", NOT, x -> x.covers(0, 1, 1, 1));
        BUSY.keeps("promise 25: no skins of this tone", NOT, x -> x.covers(4, 1, 1, 1));
        CROWDED.keeps("promise 25: no free place of this tone", NOT, x -> x.covers(0, 1, 1, 1));
        CROWDED.keeps("promise 25: OUTSIDE ahead of NOT, w", OUTSIDE, x -> x.covers(0, 13, 1, 1));
        CROWDED.keeps("promise 25: OUTSIDE ahead of NOT, h", OUTSIDE, x -> x.covers(0, 1, 0, 1));
        CROWDED.keeps("promise 25: OUTSIDE ahead of NOT, n", OUTSIDE, x -> x.covers(0, 1, 1, 9));
        CROWDED.keeps("promise 25: OUTSIDE ahead of NOT, n 0", OUTSIDE, x -> x.covers(0, 1, 1, 0));
        CROWDED.keeps("promise 25: too great", NOT, x -> x.covers(2, 12, 12, 1));
        // Of the tone 9 seven places in a row are left: seven single ones, three of two, one of seven.
        int[][] most = {{1, 7}, {2, 3}, {3, 2}, {4, 1}, {7, 1}};
        for (int[] row : most) {
            C.due("promise 25: just so many", BUSY.open().covers(9, row[0], 1, row[1]), 1);
            BUSY.keeps("promise 25: not one more", NOT, x -> x.covers(9, row[0], 1, row[1] + 1));
        }
        BUSY.keeps("promise 25: not one of eight", NOT, x -> x.covers(9, 1, 8, 1));
    }

    private static void promise25AllOrNone() {
        Shop shop = new Shop(C, x -> {
            x.skin(2, 1, 7);
            x.skin(2, 2, 6);
            x.skin(2, 1, 7);
            x.skin(3, 1, 7);
            x.cut(0, 1, 1);
            x.cut(2, 1, 1);
        });
        for (int n = 1; n <= 5; n++) {
            Bindery x = shop.open();
            C.due("promise 25: all " + n, x.covers(7, 1, 1, n), Math.min(n, 3));
            C.due("promise 25: the last of skin 0", x.spot(0, 1, 0), 3);
            C.due("promise 25: the last of skin 2", x.spot(2, 1, 0), n < 2 ? 0 : 3);
            for (int i = 0; i < 3; i++) {
                C.due("promise 25: skin 3, place " + i, x.spot(3, i, 0), i < n - 2 ? 2 + i : 0);
            }
            C.due("promise 25: nothing of another tone", x.spot(1, 0, 0), 0);
        }
        for (int n = 6; n <= 8; n++) {
            int asked = n;
            shop.keeps("promise 25: none of " + n, NOT, x -> x.covers(7, 1, 1, asked));
        }
        Bindery x = shop.open();
        x.covers(7, 1, 1, 8);
        C.due("promise 25: refused, the numbers go on", x.covers(7, 1, 1, 5), 3);
        C.due("promise 25: refused, the numbers go on", x.spot(3, 2, 0), 4);
        Bindery most = FRESH.open();
        for (int skin = 0; skin < 6; skin++) {
            most.skin(12, 12, 9);
        }
        C.due("promise 25: seven of six skins", most.covers(9, 12, 12, 7), NOT);
        C.due("promise 25: six of six skins", most.covers(9, 12, 12, 6), 6);
        C.due("promise 25: none is left", most.covers(9, 1, 1, 1), NOT);
        Bindery eight = FRESH.open();
        eight.skin(12, 12, 0);
        C.due("promise 25: eight of one skin", eight.covers(0, 3, 6, 8), 1);
        C.due("promise 25: the eighth", eight.spot(0, 11, 11), 9);
        C.due("promise 25: no ninth", eight.cut(0, 1, 1), NOT);
    }

    private static void promise25LeastNumber() {
        // Skin 0 has places for 1 by 2 turned alone, skin 1 as it is.
        Bindery x = FRESH.open();
        x.skin(4, 1, 2);
        x.skin(1, 4, 2);
        x.skin(1, 4, 2);
        C.due("promise 25: of the least number, though turned", x.covers(2, 1, 2, 1), 1);
        C.due("promise 25: turned", x.spot(0, 1, 0), 2);
        C.due("promise 25: skin 1 is not touched", x.spot(1, 0, 0), 0);
        C.due("promise 25: the rest of skin 0, then skin 1", x.covers(2, 1, 2, 2), 2);
        C.due("promise 25: skin 0", x.spot(0, 3, 0), 3);
        C.due("promise 25: skin 1", x.spot(1, 0, 1), 2);
        C.due("promise 25: skin 1, the rest", x.spot(1, 0, 2), 0);
        C.due("promise 25: a skin without a place is not counted", x.covers(2, 1, 2, 1), 1);
        C.due("promise 25: skin 1", x.spot(1, 0, 3), 3);
        C.due("promise 25: skin 2 alone is left", x.covers(2, 2, 1, 2), 1);
        C.due("promise 25: skin 2", x.spot(2, 0, 3), 3);
        C.due("promise 25: none is left", x.covers(2, 2, 1, 1), NOT);
        // A skin that has no place for this size may have one for a lesser.
        Bindery y = FRESH.open();
        y.skin(1, 1, 0);
        y.skin(2, 2, 0);
        C.due("promise 25: too great for skin 0", y.covers(0, 2, 1, 1), 1);
        C.due("promise 25: too great for skin 0", y.spot(1, 0, 0), 2);
        C.due("promise 25: skin 0 has a place for this", y.covers(0, 1, 1, 1), 1);
        C.due("promise 25: skin 0 has a place for this", y.spot(0, 0, 0), 2);
    }

    private static void promise26Spot() {
        FRESH.keeps("promise 26: no skins", UNKNOWN, x -> x.spot(0, 0, 0));
        BUSY.refuses("promise 26: no such skin", UNKNOWN, 0, 2, (x, v) -> x.spot(v, 0, 0));
        CROWDED.refuses("promise 26: no such skin of six", UNKNOWN, 0, 5, (x, v) -> x.spot(v, 0, 0));
        BUSY.refuses("promise 26: x of 5", OUTSIDE, 0, 4, (x, v) -> x.spot(0, v, 3));
        BUSY.refuses("promise 26: y of 4", OUTSIDE, 0, 3, (x, v) -> x.spot(0, 4, v));
        BUSY.refuses("promise 26: x of 1", OUTSIDE, 0, 0, (x, v) -> x.spot(2, v, 11));
        BUSY.refuses("promise 26: y of 12", OUTSIDE, 0, 11, (x, v) -> x.spot(2, 0, v));
        BUSY.keeps("promise 26: UNKNOWN ahead of OUTSIDE", UNKNOWN, x -> x.spot(3, -1, 12));
        BUSY.keeps("promise 26: free", 0, x -> x.spot(0, 0, 0));
        BUSY.keeps("promise 26: a flaw", 1, x -> x.spot(0, 1, 1));
        BUSY.keeps("promise 26: the first cover", 2, x -> x.spot(0, 4, 1));
        BUSY.keeps("promise 26: the second cover", 3, x -> x.spot(0, 0, 2));
    }

    /** As many covers as can be: 144 single places, then each skin numbers its own. */
    private static void promise26Numbers() {
        Bindery x = FRESH.open();
        x.skin(12, 12, 0);
        x.skin(12, 12, 0);
        for (int cover = 0; cover < 144; cover++) {
            x.cut(0, 1, 1);
            C.due("promise 26: 2 and the number", x.spot(0, cover % 12, cover / 12), 2 + cover);
        }
        C.due("promise 26: the first still", x.spot(0, 0, 0), 2);
        C.due("promise 26: no more places", x.cut(0, 1, 1), NOT);
        x.cut(1, 2, 3);
        C.due("promise 26: from 0 on each skin", x.spot(1, 1, 2), 2);
        C.due("promise 26: beside the cover", x.spot(1, 2, 2), 0);
        C.due("promise 26: below the cover", x.spot(1, 1, 3), 0);
        C.due("promise 26: refused cuts have no number", x.cut(1, 13, 1), OUTSIDE);
        C.due("promise 26: turned, beside the first", x.cut(1, 12, 9), TURNED + 2);
        C.due("promise 26: the second of skin 1", x.spot(1, 10, 11), 3);
        C.due("promise 26: beside the second", x.spot(1, 11, 11), 0);
    }
}
