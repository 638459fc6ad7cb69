/** Promises 22 to 26: skin, flaw, cut, covers, spot. */
public final class SkinsTest {
    private static final int UNKNOWN = Bindery.UNKNOWN, OUTSIDE = Bindery.OUTSIDE, NOT = Bindery.NOT, FULL = Bindery.FULL;
    private static final Check C = new Check();

    public static void main(String[] args) {
        skin();
        flaw();
        cut();
        covers();
        coversAllOrNone();
        spot();
        C.end();
    }

    private static void skin() {
        Bindery x = new Bindery();
        C.due("skin: w 0", x.skin(0, 1, 0), OUTSIDE);
        C.due("skin: w 13", x.skin(13, 1, 0), OUTSIDE);
        C.due("skin: h 0", x.skin(1, 0, 0), OUTSIDE);
        C.due("skin: h 13", x.skin(1, 13, 0), OUTSIDE);
        C.due("skin: tone -1", x.skin(1, 1, -1), OUTSIDE);
        C.due("skin: tone 10", x.skin(1, 1, 10), OUTSIDE);
        C.due("skin: w -5", x.skin(-5, -5, 0), OUTSIDE);
        C.due("skin: refused", x.count(1), 0);
        for (int i = 0; i < 6; i++) {
            C.due("skin", x.skin(i + 1, 12, 9), i);
        }
        C.due("skin: OUTSIDE ahead of FULL", x.skin(1, 1, 10), OUTSIDE);
        C.due("skin, the seventh", x.skin(1, 1, 0), FULL);
        C.due("skin: count", x.count(1), 6);
        C.due("skin: its width", x.spot(2, 3, 0), OUTSIDE);
        C.due("skin: its height", x.spot(2, 2, 11), 0);
    }

    private static void flaw() {
        Bindery x = new Bindery();
        C.due("flaw without a skin", x.flaw(0, 99, 99), UNKNOWN);
        x.skin(3, 2, 0);
        C.due("flaw: x -1", x.flaw(0, -1, 0), OUTSIDE);
        C.due("flaw: x 3", x.flaw(0, 3, 0), OUTSIDE);
        C.due("flaw: y -1", x.flaw(0, 0, -1), OUTSIDE);
        C.due("flaw: y 2", x.flaw(0, 0, 2), OUTSIDE);
        C.due("flaw", x.flaw(0, 2, 1), 1);
        C.due("flaw: it is one", x.spot(0, 2, 1), 1);
        C.due("flaw: there alone", x.spot(0, 1, 1), 0);
        C.due("flaw again", x.flaw(0, 2, 1), NOT);
        x.cut(0, 1, 1);
        C.due("flaw in a cut place", x.flaw(0, 0, 0), NOT);
        C.due("flaw: the place stays cut", x.spot(0, 0, 0), 2);
        C.due("flaw of skin 1", x.flaw(1, 0, 0), UNKNOWN);
        C.due("flaw of skin -1", x.flaw(-1, 0, 0), UNKNOWN);
    }

    private static void cut() {
        Bindery x = new Bindery();
        C.due("cut without a skin", x.cut(0, 0, 0), UNKNOWN);
        x.skin(4, 5, 0);
        C.due("cut: w 0", x.cut(0, 0, 1), OUTSIDE);
        C.due("cut: w 13", x.cut(0, 13, 1), OUTSIDE);
        C.due("cut: h 0", x.cut(0, 1, 0), OUTSIDE);
        C.due("cut: h 13", x.cut(0, 1, 13), OUTSIDE);
        C.due("cut: too great", x.cut(0, 6, 1), NOT);
        C.due("cut: the greatest", x.cut(0, 12, 12), NOT);
        C.due("cut: turned alone fits", x.cut(0, 5, 1), 10000);
        C.due("cut: as it is, ahead of turned", x.cut(0, 2, 3), 1);
        // At (3, 0) only turned fits; that is ahead of (1, 3), where it would fit as it is.
        C.due("cut: the place is ahead of the way", x.cut(0, 2, 1), 10003);
        C.due("cut: the next", x.cut(0, 2, 1), 10203);
        C.due("cut: y, then x", x.cut(0, 2, 1), 301);
        C.due("cut: the last row", x.cut(0, 3, 1), 401);
        C.due("cut: nothing is left of it", x.cut(0, 1, 1), NOT);
        C.due("cut of skin 1", x.cut(1, 1, 1), UNKNOWN);
        x.skin(3, 3, 0);
        x.flaw(1, 1, 1);
        C.due("cut: the flaw is in the way", x.cut(1, 2, 2), NOT);
        C.due("cut: beside the flaw", x.cut(1, 1, 3), 0);
        C.due("cut: a square is not turned", x.cut(1, 1, 1), 1);
        C.due("cut: beside", x.cut(1, 3, 1), 10002);
        x.skin(12, 12, 0);
        C.due("cut: all of it", x.cut(2, 12, 12), 0);
        x.skin(12, 12, 0);
        x.cut(3, 12, 11);
        x.cut(3, 11, 1);
        C.due("cut: the last place", x.cut(3, 1, 1), 1111);
    }

    private static void covers() {
        Bindery x = new Bindery();
        C.due("covers: tone -1", x.covers(-1, 1, 1, 1), OUTSIDE);
        C.due("covers: tone 10", x.covers(10, 1, 1, 1), OUTSIDE);
        C.due("covers: w 0", x.covers(0, 0, 1, 1), OUTSIDE);
        C.due("covers: w 13", x.covers(0, 13, 1, 1), OUTSIDE);
        C.due("covers: h 0", x.covers(0, 1, 0, 1), OUTSIDE);
        C.due("covers: h 13", x.covers(0, 1, 13, 1), OUTSIDE);
        C.due("covers: n 0", x.covers(0, 1, 1, 0), OUTSIDE);
        C.due("covers: n 9", x.covers(0, 1, 1, 9), OUTSIDE);
        C.due("covers: no skins", x.covers(0, 1, 1, 1), NOT);
        x.skin(2, 2, 5);
        x.skin(9, 9, 4);
        x.skin(3, 1, 5);
        x.skin(2, 2, 5);
        C.due("covers: of one skin", x.covers(5, 1, 2, 1), 1);
        C.due("covers: of three", x.covers(5, 1, 2, 3), 3);
        C.due("covers: skin 0", x.spot(0, 1, 1), 3);
        C.due("covers: skin 2, turned", x.spot(2, 1, 0), 2);
        C.due("covers: skin 2, left", x.spot(2, 2, 0), 0);
        C.due("covers: skin 3", x.spot(3, 0, 1), 2);
        C.due("covers: skin 3, left", x.spot(3, 1, 1), 0);
        C.due("covers: another tone is not used", x.spot(1, 0, 0), 0);
        C.due("covers: eight of one", x.covers(4, 3, 3, 8), 1);
        C.due("covers: the eighth", x.spot(1, 3, 6), 9);
        C.due("covers: the ninth place", x.spot(1, 6, 6), 0);
        C.due("covers: a skin without a place is not counted", x.covers(5, 1, 2, 1), 1);
    }

    private static void coversAllOrNone() {
        Bindery x = new Bindery();
        x.skin(2, 2, 1);
        x.skin(2, 2, 1);
        x.skin(2, 2, 2);
        x.flaw(0, 0, 0);
        x.cut(1, 1, 1);
        C.due("covers: too many", x.covers(1, 1, 2, 3), NOT);
        int[][] states = {{1, 0, 0, 0}, {2, 0, 0, 0}, {0, 0, 0, 0}};
        for (int skin = 0; skin < 3; skin++) {
            for (int i = 0; i < 4; i++) {
                C.due("covers: none is cut", x.spot(skin, i % 2, i / 2), states[skin][i]);
            }
        }
        C.due("covers: just so many", x.covers(1, 1, 2, 2), 2);
        C.due("covers: numbered on", x.spot(1, 1, 0), 3);
        C.due("covers: numbered from 0", x.spot(0, 1, 0), 2);
        C.due("covers: too many again", x.covers(1, 1, 1, 3), NOT);
        C.due("covers: the earlier ones stay", x.spot(1, 1, 0), 3);
        C.due("covers: the earlier ones stay", x.spot(0, 1, 1), 2);
        C.due("covers: free still", x.spot(0, 0, 1), 0);
        C.due("covers: free still", x.spot(1, 0, 1), 0);
        C.due("covers: of another tone", x.covers(2, 1, 1, 2), 1);
        C.due("covers: too many of another tone", x.covers(2, 1, 1, 3), NOT);
        C.due("covers: too many of the first tone", x.covers(1, 2, 2, 1), NOT);
        C.due("covers: another tone stays", x.spot(2, 0, 0), 2);
        C.due("covers: another tone stays", x.spot(2, 1, 0), 3);
        C.due("covers: another tone, free still", x.spot(2, 0, 1), 0);
        x.skin(1, 1, 3);
        C.due("covers: too many of the least skin", x.covers(3, 1, 1, 2), NOT);
        C.due("covers: its first place is free", x.spot(3, 0, 0), 0);
    }

    private static void spot() {
        Bindery x = new Bindery();
        C.due("spot without a skin", x.spot(0, -1, -1), UNKNOWN);
        x.skin(2, 3, 0);
        C.due("spot: x -1", x.spot(0, -1, 0), OUTSIDE);
        C.due("spot: x 2", x.spot(0, 2, 0), OUTSIDE);
        C.due("spot: y -1", x.spot(0, 0, -1), OUTSIDE);
        C.due("spot: y 3", x.spot(0, 0, 3), OUTSIDE);
        C.due("spot: the greatest", x.spot(0, Integer.MAX_VALUE, Integer.MAX_VALUE), OUTSIDE);
        C.due("spot of skin -1", x.spot(-1, 0, 0), UNKNOWN);
        C.due("spot of skin 6", x.spot(6, 0, 0), UNKNOWN);
        x.flaw(0, 0, 1);
        for (int i = 0; i < 5; i++) {
            x.cut(0, 1, 1);
        }
        int[] states = {2, 3, 1, 4, 5, 6};
        for (int i = 0; i < 6; i++) {
            C.due("spot", x.spot(0, i % 2, i / 2), states[i]);
        }
    }
}
