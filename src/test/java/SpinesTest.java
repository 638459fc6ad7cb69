/** Promises 14 to 21: width, sign, wipe, broken, line, stamp, sharpen, last. */
public final class SpinesTest {
    private static final int NONE = Bindery.NONE, UNKNOWN = Bindery.UNKNOWN, OUTSIDE = Bindery.OUTSIDE;
    private static final int NOT = Bindery.NOT, BLUNT = Bindery.BLUNT, FULL = Bindery.FULL;
    private static final Check C = new Check();

    public static void main(String[] args) {
        width();
        sign();
        wipe();
        broken();
        ties();
        line();
        stamp();
        sharpen();
        last();
        C.end();
    }

    private static void width() {
        Bindery x = new Bindery();
        C.due("width of the gap", x.width(0, 0), 3);
        C.due("width of the gap, again", x.width(0, 20), 0);
        C.due("width of the gap -1", x.width(0, -1), OUTSIDE);
        C.due("width of the gap 21", x.width(0, 21), OUTSIDE);
        C.due("width of the gap, as it was", x.width(0, 3), 20);
        for (int letter = 1; letter <= 26; letter++) {
            C.due("width of a letter", x.width(letter, letter % 20 + 1), 5);
            C.due("width of a letter 0", x.width(letter, 0), OUTSIDE);
            C.due("width of a letter 21", x.width(letter, 21), OUTSIDE);
            C.due("width of a letter 20", x.width(letter, 20), letter % 20 + 1);
        }
        C.due("width of letter 27", x.width(27, 99), UNKNOWN);
        C.due("width of letter -1", x.width(-1, 1), UNKNOWN);
    }

    private static void sign() {
        Bindery x = new Bindery();
        C.due("sign -1", x.sign(-1), UNKNOWN);
        C.due("sign 27", x.sign(27), UNKNOWN);
        C.due("sign: refused", x.count(4), 0);
        for (int i = 1; i <= 40; i++) {
            C.due("sign", x.sign(i % 27), i);
        }
        C.due("sign: UNKNOWN ahead of FULL", x.sign(27), UNKNOWN);
        C.due("sign, one too many", x.sign(1), FULL);
        C.due("sign: 40", x.count(4), 40);
    }

    private static void wipe() {
        Bindery x = new Bindery();
        C.due("wipe of nothing", x.wipe(), 0);
        write(x, "a bc ");
        C.due("wipe", x.wipe(), 5);
        C.due("wipe: no signs", x.count(4), 0);
        C.due("wipe: no words", x.count(5), 0);
        C.due("wipe again", x.wipe(), 0);
        C.due("wipe: a sign again", x.sign(1), 1);
    }

    private static void broken() {
        Bindery x = new Bindery();
        C.due("broken: OUTSIDE ahead of NOT", x.broken(0, 1), OUTSIDE);
        C.due("broken: W 401", x.broken(401, 1), OUTSIDE);
        C.due("broken: W -1", x.broken(-1, 1), OUTSIDE);
        C.due("broken: k 0", x.broken(1, 0), OUTSIDE);
        C.due("broken: k 7", x.broken(1, 7), OUTSIDE);
        C.due("broken: no text", x.broken(400, 6), NOT);
        write(x, "  ");
        C.due("broken: gaps alone", x.broken(400, 6), NOT);
        write(x, "ab   c ");
        // Words of 10 and 5, one gap of 3 between them however many gaps stand there.
        C.due("broken: in one line", x.broken(18, 6), 0);
        C.due("broken: one line too narrow", x.broken(17, 1), NONE);
        C.due("broken: in two", x.broken(17, 2), 49 + 144);
        C.due("broken: as narrow as can be", x.broken(10, 2), 25);
        C.due("broken: a word too wide", x.broken(9, 6), NONE);
        C.due("broken: the widest", x.broken(400, 1), 382 * 382);
        x.width(0, 0);
        C.due("broken: a gap of 0", x.broken(15, 1), 0);
        x.width(3, 20);
        C.due("broken: wider letter", x.broken(30, 1), 0);
        // A gap so wide that no two words stand in one line of 29.
        Bindery y = new Bindery();
        y.width(0, 20);
        write(y, "a b c d e f");
        C.due("broken: six lines", y.broken(5, 6), 0);
        C.due("broken: six words, five lines too narrow", y.broken(5, 5), NONE);
        C.due("broken: five lines of 29 are too few", y.broken(29, 5), NONE);
        C.due("broken: two words in each line of 30", y.broken(30, 5), 0);
        Bindery z = new Bindery();
        z.width(1, 1);
        write(z, "a");
        C.due("broken: the narrowest", z.broken(1, 1), 0);
        mostWords();
    }

    private static void mostWords() {
        Bindery x = new Bindery();
        for (int i = 0; i < 40; i++) {
            x.sign(i % 2 == 0 ? 1 + i / 2 : 0);
        }
        C.due("broken: twenty words in one line", x.broken(157, 1), 0);
        lines(x, 20);
        C.due("broken: twenty words, one line too narrow", x.broken(156, 1), NONE);
        C.due("broken: twenty words in five lines", x.broken(29, 6), 0);
        lines(x, 4, 4, 4, 4, 4);
        // With the last word 20 wide: lines of 3 and 4 words are 21 and 29 wide, the last of 2 words 28.
        x.width(20, 20);
        C.due("broken: twenty words in six lines", x.broken(29, 6), 64 + 64 + 1);
        lines(x, 3, 3, 4, 4, 4, 2);
        C.due("broken: twenty words, six lines too narrow", x.broken(28, 6), NONE);
    }

    private static void ties() {
        // Cost 0 in no way; 1+2 and 2+1 cost the same: the fewest words in the first line.
        Bindery x = new Bindery();
        write(x, "a b c");
        C.due("ties: cost", x.broken(14, 3), 1 + 81);
        lines(x, 1, 2);
        // The fewest words first holds line by line: 1+2+2 ahead of 2+1+2 and 2+2+1.
        Bindery y = new Bindery();
        write(y, "a b c d e");
        C.due("ties: three lines", y.broken(14, 6), 1 + 1 + 81);
        lines(y, 1, 2, 2);
        // More lines are allowed than are good: no more are used.
        Bindery z = new Bindery();
        write(z, "a b c d");
        C.due("ties: one line", z.broken(29, 6), 0);
        lines(z, 4);
        C.due("ties: two lines", z.broken(13, 6), 0);
        lines(z, 2, 2);
        // The least cost, though the first line could be full.
        Bindery v = new Bindery();
        v.width(0, 1);
        for (int letter = 1; letter <= 26; letter++) {
            v.width(letter, 1);
        }
        write(v, "aaa bb cc ddddd");
        C.due("ties: the least cost", v.broken(6, 6), 9 + 1 + 1);
        lines(v, 1, 2, 1);
    }

    private static void line() {
        Bindery x = new Bindery();
        C.due("line, never broken", x.line(0), OUTSIDE);
        write(x, "a bb c");
        x.broken(10, 3);
        lines(x, 1, 1, 1);
        C.due("line -1", x.line(-1), OUTSIDE);
        C.due("line: the greatest", x.line(Integer.MAX_VALUE), OUTSIDE);
        C.due("line: the least", x.line(Integer.MIN_VALUE), OUTSIDE);
        x.broken(18, 2);
        lines(x, 1, 2);
        write(x, " d");
        x.width(1, 20);
        lines(x, 1, 2);
        x.broken(0, 1);
        lines(x, 1, 2);
        x.wipe();
        lines(x, 1, 2);
        C.due("line: refused", x.broken(5, 1), NOT);
        lines(x, 1, 2);
        write(x, "ab");
        C.due("line: it cannot be", x.broken(5, 1), NONE);
        lines(x);
        x.broken(25, 1);
        lines(x, 1);
    }

    private static void stamp() {
        Bindery x = new Bindery();
        C.due("stamp without a text", x.stamp(), NOT);
        write(x, " ");
        C.due("stamp of gaps", x.stamp(), NOT);
        write(x, "aab z");
        x.last(4);
        C.due("stamp", x.stamp(), 4);
        C.due("stamp, up to the last", x.stamp(), 4);
        C.due("stamp, a is blunt", x.stamp(), BLUNT);
        C.due("stamp: refused, b stays", x.sharpen(2), 2);
        C.due("stamp: refused, z stays", x.sharpen(26), 2);
        C.due("stamp: a, still blunt", x.stamp(), BLUNT);
        C.due("stamp: a", x.sharpen(1), 4);
        C.due("stamp, sharp again", x.stamp(), 4);
        x.last(1);
        C.due("stamp: a would be", x.stamp(), BLUNT);
        x.wipe();
        write(x, "c");
        C.due("stamp: blunt letters outside the text are nothing", x.stamp(), 1);
        C.due("stamp: c would be", x.stamp(), BLUNT);
        x.wipe();
        write(x, "z");
        x.sharpen(26);
        C.due("stamp: z", x.stamp(), 1);
        C.due("stamp: z would be", x.stamp(), BLUNT);
        x.wipe();
        C.due("stamp: wiped", x.stamp(), NOT);
    }

    private static void sharpen() {
        Bindery x = new Bindery();
        C.due("sharpen 0", x.sharpen(0), UNKNOWN);
        C.due("sharpen 27", x.sharpen(27), UNKNOWN);
        C.due("sharpen -1", x.sharpen(-1), UNKNOWN);
        write(x, "zz a");
        x.stamp();
        x.stamp();
        C.due("sharpen z", x.sharpen(26), 4);
        C.due("sharpen z again", x.sharpen(26), 0);
        C.due("sharpen a", x.sharpen(1), 2);
        C.due("sharpen b", x.sharpen(2), 0);
    }

    private static void last() {
        Bindery x = new Bindery();
        C.due("last 0", x.last(0), OUTSIDE);
        C.due("last 1001", x.last(1001), OUTSIDE);
        C.due("last -1", x.last(-1), OUTSIDE);
        write(x, "a");
        for (int i = 0; i < 100; i++) {
            C.due("last: 100 at first", x.stamp(), 1);
        }
        C.due("last: one more", x.stamp(), BLUNT);
        C.due("last 1000", x.last(1000), 100);
        C.due("last: more now", x.stamp(), 1);
        C.due("last 1", x.last(1), 1000);
        C.due("last: nothing stamped is looked at", x.sharpen(1), 101);
        C.due("last: one", x.stamp(), 1);
        C.due("last: no second", x.stamp(), BLUNT);
        C.due("last, as it was", x.last(2), 1);
    }

    private static void write(Bindery x, String text) {
        for (char c : text.toCharArray()) {
            x.sign(c == ' ' ? 0 : c - 'a' + 1);
        }
    }

    private static void lines(Bindery x, int... words) {
        for (int i = 0; i < words.length; i++) {
            C.due("line " + i, x.line(i), words[i]);
        }
        C.due("line " + words.length, x.line(words.length), OUTSIDE);
    }
}
