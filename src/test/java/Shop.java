import java.util.ArrayList;
import java.util.List;

/** A state that can be made again and again, so that it can be compared with a twin that had one call more. */
final class Shop {
    interface Deed {
        void on(Bindery x);
    }

    interface Question {
        int of(Bindery x);
    }

    interface Asked {
        int of(Bindery x, int value);
    }

    private final Check check;
    private final Deed deed;
    private final List<List<Integer>> untouched = new ArrayList<>();

    Shop(Check check, Deed deed) {
        this.check = check;
        this.deed = deed;
        for (int look = 0; look < Looks.HOW_MANY; look++) {
            untouched.add(Looks.at(open(), look));
        }
    }

    Bindery open() {
        Bindery x = new Bindery();
        deed.on(x);
        return x;
    }

    /** The call answers what is due, asked again too, and no later call shows that it was ever made. */
    void keeps(String told, int due, Question call) {
        for (int look = 0; look < Looks.HOW_MANY; look++) {
            Bindery x = open();
            check.due(told, call.of(x), due);
            check.due(told + ", asked again", call.of(x), due);
            check.same(told + ": changed, look " + look, Looks.at(x, look), untouched.get(look));
        }
    }

    /** No value beyond least .. most is taken: see beyond. */
    void refuses(String told, int due, int least, int most, Asked call) {
        for (int value : beyond(least, most)) {
            keeps(told + " " + value, due, x -> call.of(x, value));
        }
    }

    /** The first values on either side, the last that there are, and such as a byte or a short would wrap into the range. */
    static int[] beyond(int least, int most) {
        int byteTurn = (most / 256 + 1) * 256;
        return new int[] {
            least - 1, most + 1, Integer.MIN_VALUE, Integer.MIN_VALUE + most, least - byteTurn, byteTurn + least,
            65536 + most, Integer.MAX_VALUE
        };
    }
}
