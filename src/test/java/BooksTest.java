/** Promises 2 to 8: book, gather, look, pass, told, there, gone. */
public final class BooksTest {
    private static final int UNKNOWN = Bindery.UNKNOWN, OUTSIDE = Bindery.OUTSIDE, NOT = Bindery.NOT, FULL = Bindery.FULL;
    private static final Check C = new Check();

    public static void main(String[] args) {
        book();
        gather();
        look();
        pass();
        told();
        there();
        gone();
        C.end();
    }

    private static void book() {
        Bindery x = new Bindery();
        for (int i = 0; i < 10; i++) {
            C.due("book", x.book(), i);
        }
        C.due("book, the eleventh", x.book(), FULL);
        C.due("book: count", x.count(0), 10);
        C.due("book: no gatherings", x.told(9, 1), 0);
        C.due("book: at bench 0", x.told(9, 0), 0);
        C.due("book: no eleventh", x.told(10, 0), UNKNOWN);
    }

    private static void gather() {
        Bindery x = new Bindery();
        C.due("gather without a book", x.gather(0, 99), UNKNOWN);
        x.book();
        C.due("gather of book -1", x.gather(-1, 1), UNKNOWN);
        C.due("gather of 0 leaves", x.gather(0, 0), OUTSIDE);
        C.due("gather of 17 leaves", x.gather(0, 17), OUTSIDE);
        C.due("gather of -1 leaves", x.gather(0, -1), OUTSIDE);
        int[] leaves = {1, 16, 3, 4, 5, 6};
        for (int i = 0; i < 6; i++) {
            C.due("gather", x.gather(0, leaves[i]), i);
            C.due("gather: all there", x.there(0, i), (1 << leaves[i]) - 1);
        }
        C.due("gather: OUTSIDE ahead of FULL", x.gather(0, 17), OUTSIDE);
        C.due("gather, the seventh", x.gather(0, 1), FULL);
        lookAll(x, 0);
        x.pass(0);
        C.due("gather: OUTSIDE ahead of NOT", x.gather(0, 0), OUTSIDE);
        C.due("gather: NOT ahead of FULL", x.gather(0, 1), NOT);
        C.due("gather: nothing came", x.told(0, 1), 6);
    }

    private static void look() {
        Bindery x = new Bindery();
        C.due("look without a book", x.look(0, 0, 0), UNKNOWN);
        x.book();
        x.gather(0, 4);
        C.due("look at gathering 1", x.look(0, 1, 0), UNKNOWN);
        C.due("look at gathering -1", x.look(0, -1, 0), UNKNOWN);
        C.due("look: bit 4 of 4 leaves", x.look(0, 0, 16), OUTSIDE);
        C.due("look: the sign bit", x.look(0, 0, Integer.MIN_VALUE), OUTSIDE);
        C.due("look: -1", x.look(0, 0, -1), OUTSIDE);
        C.due("look: refused, nothing lost", x.there(0, 0), 15);
        C.due("look: refused, not looked at", x.pass(0), NOT);
        C.due("look: one lost", x.look(0, 0, 13), 1);
        C.due("look: one found, two lost", x.look(0, 0, 2), 4);
        C.due("look: believed is what was seen", x.there(0, 0), 2);
        C.due("look: none seen", x.look(0, 0, 0), 1);
        C.due("look: all found", x.look(0, 0, 15), 4);
        C.due("look: the same again", x.look(0, 0, 15), 0);
        for (int bench = 0; bench < 5; bench++) {
            lookAll(x, 0);
            x.pass(0);
        }
        C.due("look: OUTSIDE ahead of NOT", x.look(0, 0, 16), OUTSIDE);
        C.due("look: UNKNOWN ahead of NOT", x.look(0, 1, 1), UNKNOWN);
        C.due("look at a book that is done", x.look(0, 0, 1), NOT);
        C.due("look: refused, all there", x.there(0, 0), 15);
    }

    private static void pass() {
        Bindery x = new Bindery();
        C.due("pass without a book", x.pass(0), UNKNOWN);
        x.book();
        x.book();
        C.due("pass without gatherings", x.pass(0), NOT);
        x.gather(0, 2);
        x.gather(0, 2);
        x.gather(1, 2);
        C.due("pass, nothing looked at", x.pass(0), NOT);
        x.look(0, 1, 3);
        x.look(0, 1, 3);
        x.look(1, 0, 3);
        C.due("pass, one not looked at", x.pass(0), NOT);
        x.look(0, 0, 0);
        x.gather(0, 1);
        C.due("pass, a new one not looked at", x.pass(0), NOT);
        x.look(0, 2, 1);
        C.due("pass", x.pass(0), 1);
        C.due("pass again, not looked at here", x.pass(0), NOT);
        C.due("pass: refused ones are no passes", x.count(2), 1);
        for (int bench = 1; bench < 5; bench++) {
            lookAll(x, 0);
            C.due("pass", x.pass(0), bench + 1);
        }
        C.due("pass of a done book", x.pass(0), NOT);
        C.due("pass: the other book is where it was", x.told(1, 0), 0);
        C.due("pass of the other", x.pass(1), 1);
        C.due("pass of book 2", x.pass(2), UNKNOWN);
        C.due("pass: count", x.count(2), 6);
    }

    private static void told() {
        Bindery x = new Bindery();
        C.due("told without a book", x.told(0, 9), UNKNOWN);
        x.book();
        x.book();
        for (int what = 0; what < 4; what++) {
            C.due("told of a new book", x.told(0, what), 0);
        }
        x.gather(0, 5);
        x.gather(0, 16);
        x.look(0, 1, 0xF00F);
        x.look(0, 0, 1);
        x.pass(0);
        C.due("told: where", x.told(0, 0), 1);
        C.due("told: gatherings", x.told(0, 1), 2);
        C.due("told: there", x.told(0, 2), 9);
        C.due("told: in all", x.told(0, 3), 21);
        C.due("told: 4", x.told(0, 4), OUTSIDE);
        C.due("told: -1", x.told(0, -1), OUTSIDE);
        C.due("told: the other", x.told(1, 3), 0);
    }

    private static void there() {
        Bindery x = new Bindery();
        C.due("there without a book", x.there(0, 0), UNKNOWN);
        x.book();
        C.due("there without a gathering", x.there(0, 0), UNKNOWN);
        x.gather(0, 3);
        C.due("there", x.there(0, 0), 7);
        x.look(0, 0, 5);
        C.due("there, looked at", x.there(0, 0), 5);
        C.due("there of gathering -1", x.there(0, -1), UNKNOWN);
        C.due("there of gathering 1", x.there(0, 1), UNKNOWN);
        C.due("there of gathering 6", x.there(0, 6), UNKNOWN);
        C.due("there of book 10", x.there(10, 0), UNKNOWN);
        C.due("there of book -1", x.there(-1, 0), UNKNOWN);
    }

    private static void gone() {
        Bindery x = new Bindery();
        C.due("gone without a book", x.gone(0, 0, 9), UNKNOWN);
        x.book();
        x.book();
        x.gather(0, 4);
        x.gather(0, 4);
        x.look(0, 0, 3);
        x.look(0, 1, 7);
        x.look(0, 0, 14);
        C.due("gone: lost at 0", x.gone(0, 0, 0), 4);
        C.due("gone: found at 0", x.gone(0, 0, 1), 2);
        x.pass(0);
        x.look(0, 0, 15);
        x.look(0, 1, 8);
        C.due("gone: lost at 1", x.gone(0, 1, 0), 3);
        C.due("gone: found at 1", x.gone(0, 1, 1), 2);
        C.due("gone: lost at 0 still", x.gone(0, 0, 0), 4);
        x.look(0, 1, 0);
        x.look(0, 1, 8);
        C.due("gone: the same leaf lost twice counts twice", x.gone(0, 1, 0), 4);
        C.due("gone: the same leaf found twice counts twice", x.gone(0, 1, 1), 3);
        C.due("gone: nothing at 4", x.gone(0, 4, 0), 0);
        C.due("gone: no bench 5", x.gone(0, 5, 9), UNKNOWN);
        C.due("gone: no bench -1", x.gone(0, -1, 0), UNKNOWN);
        C.due("gone: way 2", x.gone(0, 0, 2), OUTSIDE);
        C.due("gone: way -1", x.gone(0, 0, -1), OUTSIDE);
        C.due("gone of the other book", x.gone(1, 0, 0), 0);
    }

    private static void lookAll(Bindery x, int book) {
        for (int i = 0; i < x.told(book, 1); i++) {
            x.look(book, i, x.there(book, i));
        }
    }
}
