/** The edges of promises 14 to 21, a test for each sentence of the document that names one. */
public final class SpinesEdgesTest {
    private static final int NONE = Bindery.NONE, UNKNOWN = Bindery.UNKNOWN, OUTSIDE = Bindery.OUTSIDE;
    private static final int NOT = Bindery.NOT, BLUNT = Bindery.BLUNT, FULL = Bindery.FULL;
    private static final Check C = new Check();
    private static final Shop FRESH = Shops.fresh(C), BUSY = Shops.busy(C), CROWDED = Shops.full(C);
    // A text that was broken in two lines, then gaps alone.
    private static final Shop BLANK = new Shop(C, x -> {
        Shops.write(x, "ab c");
        x.broken(10, 2);
        x.stamp();
        x.wipe();
        Shops.write(x, "   ");
    });

    public static void main(String[] args) {
        promise14Width();
        promise15Sign();
        promise16Wipe();
        promise17Refused();
        promise17Widths();
        promise17Lines();
        promise17Words();
        promise17LeastCost();
        promise18Refused();
        promise18WhateverCameSince();
        promise19Stamp();
        promise19Blunt();
        promise20Sharpen();
        promise21Last();
        C.end();
    }

    private static void promise14Width() {
        Bindery x = FRESH.open();
        C.due("promise 14: the gap, 3 at first", x.width(0, 0), 3);
        C.due("promise 14: the gap, 0 taken", x.width(0, 20), 0);
        C.due("promise 14: the gap, 20 taken", x.width(0, 3), 20);
        for (int letter = 1; letter <= 26; letter++) {
            C.due("promise 14: a letter, 5 at first", x.width(letter, 1), 5);
            C.due("promise 14: a letter, 1 taken", x.width(letter, 20), 1);
            C.due("promise 14: a letter, 20 taken", x.width(letter, letter % 20 + 1), 20);
        }
        for (int letter = 1; letter <= 26; letter++) {
            C.due("promise 14: each letter has its own", x.width(letter, 5), letter % 20 + 1);
        }
        C.due("promise 14: the gap has its own", x.width(0, 5), 3);
        BUSY.refuses("promise 14: no such letter", UNKNOWN, 0, 26, (y, v) -> y.width(v, 8));
        BUSY.refuses("promise 14: the gap", OUTSIDE, 0, 20, (y, v) -> y.width(0, v));
        int[] some = {1, 2, 25, 26};
        for (int letter : some) {
            BUSY.refuses("promise 14: letter " + letter, OUTSIDE, 1, 20, (y, v) -> y.width(letter, v));
        }
        BUSY.keeps("promise 14: UNKNOWN ahead of OUTSIDE, 27", UNKNOWN, y -> y.width(27, 21));
        BUSY.keeps("promise 14: UNKNOWN ahead of OUTSIDE, -1", UNKNOWN, y -> y.width(-1, -1));
    }

    private static void promise15Sign() {
        for (int letter = 0; letter <= 26; letter++) {
            Bindery x = FRESH.open();
            C.due("promise 15: sign " + letter, x.sign(letter), 1);
            C.due("promise 15: it is that letter", x.stamp(), letter == 0 ? NOT : 1);
            C.due("promise 15: it is that letter", x.sharpen(Math.max(1, letter)), letter == 0 ? 0 : 1);
        }
        BUSY.refuses("promise 15: neither 0 nor a letter", UNKNOWN, 0, 26, (y, v) -> y.sign(v));
        Bindery x = FRESH.open();
        for (int signs = 1; signs <= 40; signs++) {
            C.due("promise 15: how many", x.sign(signs % 3), signs);
        }
        C.due("promise 15: 40 at most", x.sign(1), FULL);
        C.due("promise 15: 40 signs", x.count(4), 40);
        CROWDED.keeps("promise 15: FULL, a gap", FULL, y -> y.sign(0));
        CROWDED.keeps("promise 15: FULL, a letter", FULL, y -> y.sign(26));
        CROWDED.keeps("promise 15: UNKNOWN ahead of FULL, 27", UNKNOWN, y -> y.sign(27));
        CROWDED.keeps("promise 15: UNKNOWN ahead of FULL, -1", UNKNOWN, y -> y.sign(-1));
    }

    private static void promise16Wipe() {
        FRESH.keeps("promise 16: nothing to wipe", 0, x -> x.wipe());
        Bindery x = CROWDED.open();
        C.due("promise 16: a full text", x.wipe(), 40);
        C.due("promise 16: no signs", x.count(4), 0);
        C.due("promise 16: no words", x.count(5), 0);
        C.due("promise 16: nothing more", x.wipe(), 0);
        C.due("promise 16: nothing to break", x.broken(400, 6), NOT);
        C.due("promise 16: nothing to stamp", x.stamp(), NOT);
        for (int signs = 1; signs <= 40; signs++) {
            C.due("promise 16: there is room again", x.sign(0), signs);
        }
        C.due("promise 16: full again", x.sign(0), FULL);
        C.due("promise 16: of the old text nothing is left", x.count(5), 0);
        C.due("promise 16: a text of gaps has signs", BLANK.open().wipe(), 3);
        // Tools and widths are no part of the text.
        Bindery y = BUSY.open();
        y.wipe();
        C.due("promise 16: a stays as often stamped", y.sharpen(1), 6);
        C.due("promise 16: a stays as wide", y.width(1, 1), 3);
        C.due("promise 16: LAST stays", y.last(1), 9);
    }

    private static void promise17Refused() {
        BUSY.refuses("promise 17: W", OUTSIDE, 1, 400, (x, v) -> x.broken(v, 3));
        BUSY.refuses("promise 17: k", OUTSIDE, 1, 6, (x, v) -> x.broken(100, v));
        BUSY.keeps("promise 17: neither", OUTSIDE, x -> x.broken(401, 7));
        FRESH.keeps("promise 17: no text", NOT, x -> x.broken(1, 1));
        FRESH.keeps("promise 17: no text, the widest", NOT, x -> x.broken(400, 6));
        BLANK.keeps("promise 17: gaps are no words", NOT, x -> x.broken(400, 6));
        BLANK.keeps("promise 17: OUTSIDE ahead of NOT, W 0", OUTSIDE, x -> x.broken(0, 1));
        BLANK.keeps("promise 17: OUTSIDE ahead of NOT, W 401", OUTSIDE, x -> x.broken(401, 1));
        BLANK.keeps("promise 17: OUTSIDE ahead of NOT, k 0", OUTSIDE, x -> x.broken(1, 0));
        BLANK.keeps("promise 17: OUTSIDE ahead of NOT, k 7", OUTSIDE, x -> x.broken(1, 7));
        Shop gaps = new Shop(C, x -> {
            for (int i = 0; i < 40; i++) {
                x.sign(0);
            }
        });
        gaps.keeps("promise 17: forty gaps", NOT, x -> x.broken(400, 6));
    }

    private static void promise17Widths() {
        Bindery x = FRESH.open();
        x.width(1, 1);
        x.width(2, 2);
        x.width(20, 20);
        Shops.write(x, "a");
        C.due("promise 17: W 1", x.broken(1, 1), 0);
        C.due("promise 17: W 400", x.broken(400, 1), 399 * 399);
        C.due("promise 17: W 400, k 6", x.broken(400, 6), 399 * 399);
        x.wipe();
        Shops.write(x, "b");
        C.due("promise 17: none is wider than W", x.broken(1, 6), NONE);
        x.wipe();
        Shops.write(x, "tttttttttttttttttttt");
        C.due("promise 17: as wide as W", x.broken(400, 1), 0);
        C.due("promise 17: one too narrow", x.broken(399, 6), NONE);
        Shops.write(x, "a");
        C.due("promise 17: one wider than the widest", x.broken(400, 6), NONE);
        Shops.write(x, "ttttttttttttttttttt");
        C.due("promise 17: a word of forty signs", x.broken(400, 6), NONE);
        // The gap, from none to the widest.
        int[] gaps = {0, 1, 19, 20};
        for (int gap : gaps) {
            Bindery y = FRESH.open();
            y.width(0, gap);
            y.width(1, 1);
            Shops.write(y, "a a");
            C.due("promise 17: gap " + gap + ", as wide as W", y.broken(2 + gap, 1), 0);
            C.due("promise 17: gap " + gap + ", one too narrow", y.broken(1 + gap, 1), NONE);
            C.due("promise 17: gap " + gap + ", in two lines", y.broken(1 + gap, 2), 2 * gap * gap);
        }
    }

    private static void promise17Lines() {
        Bindery x = FRESH.open();
        Shops.write(x, "ab ab ab ab ab ab");
        for (int k = 1; k <= 5; k++) {
            C.due("promise 17: six words that stand alone, k " + k, x.broken(10, k), NONE);
            C.due("promise 17: no lines then", x.line(0), OUTSIDE);
        }
        C.due("promise 17: six lines", x.broken(10, 6), 0);
        lines("promise 17: six lines", x, 1, 1, 1, 1, 1, 1);
        Shops.write(x, " ab");
        C.due("promise 17: a seventh word", x.broken(10, 6), NONE);
        lines("promise 17: a seventh word", x);
        C.due("promise 17: two in the last line", x.broken(23, 4), 13 * 13);
        lines("promise 17: the fewest words first", x, 1, 2, 2, 2);
        C.due("promise 17: three lines are too few", x.broken(23, 3), NONE);
        C.due("promise 17: three lines, wider", x.broken(36, 3), 13 * 13 + 13 * 13);
        lines("promise 17: three lines, wider", x, 2, 2, 3);
    }

    private static void promise17Words() {
        String[] alike = {"a b", " a b", "a b ", "a    b", "   a  b   "};
        for (String text : alike) {
            Bindery x = FRESH.open();
            Shops.write(x, text);
            C.due("promise 17: words of '" + text + "'", x.count(5), 2);
            C.due("promise 17: one gap between words of '" + text + "'", x.broken(13, 1), 0);
            C.due("promise 17: '" + text + "' one too narrow", x.broken(12, 1), NONE);
            C.due("promise 17: '" + text + "' in two lines", x.broken(5, 2), 0);
        }
        // Twenty words are the most: every second sign a gap.
        Bindery x = FRESH.open();
        for (int i = 0; i < 40; i++) {
            x.sign(i % 2 == 0 ? 1 : 0);
        }
        C.due("promise 17: twenty words", x.count(5), 20);
        C.due("promise 17: twenty words in one line", x.broken(20 * 5 + 19 * 3, 1), 0);
        lines("promise 17: twenty words in one line", x, 20);
        C.due("promise 17: twenty words, one too narrow", x.broken(20 * 5 + 19 * 3 - 1, 1), NONE);
        C.due("promise 17: twenty words in six lines", x.broken(4 * 5 + 3 * 3, 6), 0);
        lines("promise 17: twenty words in six lines", x, 4, 4, 4, 4, 4);
        C.due("promise 17: six lines are too few", x.broken(3 * 5 + 2 * 3, 6), NONE);
        Bindery y = FRESH.open();
        for (int i = 0; i < 40; i++) {
            y.sign(i % 2 == 0 ? 0 : 1);
        }
        C.due("promise 17: twenty words behind gaps", y.count(5), 20);
        C.due("promise 17: twenty words behind gaps", y.broken(20 * 5 + 19 * 3, 1), 0);
    }

    /**
     * 'Of several that with the fewest LINES' has no test by itself: up to 6 lines and W 400 a way with one line more
     * than are needed always costs more than some way without it, so no text has two such ways that cost the same.
     */
    private static void promise17LeastCost() {
        // All letters and the gap 1 wide: 'aaa bb cc ddddd' in lines of 6 costs 0 + 16 + 1 if the first is filled.
        Bindery x = FRESH.open();
        for (int letter = 0; letter <= 26; letter++) {
            x.width(letter, 1);
        }
        Shops.write(x, "aaa bb cc ddddd");
        C.due("promise 17: costs least", x.broken(6, 6), 9 + 1 + 1);
        lines("promise 17: costs least", x, 1, 2, 1);
        x.wipe();
        Shops.write(x, "a b c");
        C.due("promise 17: of two the fewest words in the first", x.broken(4, 2), 9 + 1);
        lines("promise 17: of two the fewest words in the first", x, 1, 2);
        x.wipe();
        Shops.write(x, "a b c d e");
        C.due("promise 17: of several the fewest words in the first", x.broken(3, 3), 4);
        lines("promise 17: of several the fewest words in the first", x, 1, 2, 2);
        x.wipe();
        Shops.write(x, "aaa b c d e");
        C.due("promise 17: just as many as fit", x.broken(3, 4), 0);
        lines("promise 17: just as many as fit", x, 1, 2, 2);
        x.wipe();
        Shops.write(x, "aaa b c d e f");
        C.due("promise 17: then the fewest in the second", x.broken(3, 4), 4);
        lines("promise 17: then the fewest in the second", x, 1, 1, 2, 2);
        C.due("promise 17: no more lines than are good", x.broken(13, 6), 0);
        lines("promise 17: no more lines than are good", x, 6);
    }

    private static void promise18Refused() {
        FRESH.keeps("promise 18: it never was", OUTSIDE, x -> x.line(0));
        BUSY.refuses("promise 18: of three lines", OUTSIDE, 0, 2, (x, v) -> x.line(v));
        for (int line = 0; line < 3; line++) {
            int asked = line;
            BUSY.keeps("promise 18: a line", 1, x -> x.line(asked));
        }
        Shop six = new Shop(C, x -> {
            Shops.write(x, "ab ab ab ab ab ab");
            x.broken(10, 6);
        });
        six.keeps("promise 18: the last of six", 1, x -> x.line(5));
        six.refuses("promise 18: of six lines", OUTSIDE, 0, 5, (x, v) -> x.line(v));
        Shop failed = new Shop(C, x -> {
            Shops.write(x, "ab ab");
            x.broken(10, 6);
            x.broken(9, 6);
        });
        failed.keeps("promise 18: it could not be the last time", OUTSIDE, x -> x.line(0));
        failed.keeps("promise 18: it could not be the last time", OUTSIDE, x -> x.line(1));
        Shop text = new Shop(C, x -> Shops.write(x, "ab ab"));
        text.keeps("promise 18: a text that never was", OUTSIDE, x -> x.line(0));
        // Fewer lines than the time before: of those nothing is left.
        Bindery x = six.open();
        x.broken(400, 6);
        lines("promise 18: one line now", x, 6);
    }

    private static void promise18WhateverCameSince() {
        Bindery x = FRESH.open();
        Shops.write(x, "ab cd e");
        x.broken(18, 2);
        lines("promise 18: as it was broken", x, 1, 2);
        Shops.write(x, "fg h");
        lines("promise 18: signs since", x, 1, 2);
        x.width(0, 20);
        x.width(1, 20);
        lines("promise 18: widths since", x, 1, 2);
        x.stamp();
        x.sharpen(1);
        x.last(1);
        lines("promise 18: tools since", x, 1, 2);
        C.due("promise 18: refused since", x.broken(0, 1), OUTSIDE);
        C.due("promise 18: refused since", x.broken(1, 7), OUTSIDE);
        lines("promise 18: refused since", x, 1, 2);
        x.wipe();
        C.due("promise 18: no words since", x.broken(18, 2), NOT);
        lines("promise 18: wiped since", x, 1, 2);
        Shops.write(x, "a");
        C.due("promise 18: it could not be", x.broken(1, 1), NONE);
        lines("promise 18: it could not be", x);
        C.due("promise 18: it can again", x.broken(20, 1), 0);
        lines("promise 18: it can again", x, 1);
    }

    private static void promise19Stamp() {
        FRESH.keeps("promise 19: no text", NOT, x -> x.stamp());
        BLANK.keeps("promise 19: gaps alone", NOT, x -> x.stamp());
        Bindery x = FRESH.open();
        for (int i = 0; i < 40; i++) {
            x.sign(26);
        }
        C.due("promise 19: forty of one letter", x.stamp(), 40);
        C.due("promise 19: each time that it stands there", x.sharpen(26), 40);
        Bindery y = FRESH.open();
        for (int letter = 1; letter <= 26; letter++) {
            y.sign(letter);
        }
        C.due("promise 19: each letter once", y.stamp(), 26);
        for (int letter = 1; letter <= 26; letter++) {
            C.due("promise 19: each letter once", y.sharpen(letter), 1);
        }
        // A letter that is blunt does not hinder others, as long as it does not stand in the text.
        Bindery blunt = FRESH.open();
        Shops.write(blunt, "aa");
        blunt.stamp();
        blunt.last(1);
        blunt.wipe();
        Shops.write(blunt, "b");
        C.due("promise 19: a is blunt, and not in the text", blunt.stamp(), 1);
        Shops.write(blunt, "a");
        C.due("promise 19: a is blunt, and in the text", blunt.stamp(), BLUNT);
        // Nor does one that is used up hinder a text without letters from being NOT.
        Shop used = new Shop(C, z -> {
            Shops.write(z, "a");
            z.last(1);
            z.stamp();
            z.wipe();
            z.sign(0);
        });
        used.keeps("promise 19: NOT, though a is used up", NOT, z -> z.stamp());
        Bindery v = used.open();
        v.sign(2);
        C.due("promise 19: a letter that is not in the text does not matter", v.stamp(), 1);
        v.sign(1);
        v.last(2);
        C.due("promise 19: LAST times are not more than LAST", v.stamp(), 2);
    }

    private static void promise19Blunt() {
        CROWDED.keeps("promise 19: BLUNT", BLUNT, x -> x.stamp());
        BUSY.keeps("promise 19: a would be at its ninth, LAST 8", BLUNT, x -> {
            x.last(8);
            int answer = x.stamp();
            x.last(9);
            return answer;
        });
        // The first, the last or one in the middle would be: none is stamped.
        String[] texts = {"aabcd", "abccd", "abcdd"};
        for (String text : texts) {
            Shop shop = new Shop(C, x -> {
                x.last(3);
                Shops.write(x, text);
                x.stamp();
            });
            shop.keeps("promise 19: none of " + text, BLUNT, x -> x.stamp());
        }
        int[] edges = {1, 39, 40};
        for (int last : edges) {
            Bindery x = FRESH.open();
            x.last(last);
            for (int i = 0; i < last; i++) {
                x.sign(7);
            }
            C.due("promise 19: as often as LAST", x.stamp(), last);
            C.due("promise 19: more often", x.stamp(), BLUNT);
            C.due("promise 19: refused, LAST times still", x.sharpen(7), last);
            if (last < 40) {
                x.sign(7);
                C.due("promise 19: once more than LAST at one time", x.stamp(), BLUNT);
            }
        }
        Bindery x = FRESH.open();
        for (int i = 0; i < 40; i++) {
            x.sign(1);
        }
        C.due("promise 19: 40 of 100", x.stamp(), 40);
        C.due("promise 19: 80 of 100", x.stamp(), 40);
        C.due("promise 19: 120 of 100", x.stamp(), BLUNT);
        x.last(1000);
        for (int i = 0; i < 23; i++) {
            C.due("promise 19: up to 1000", x.stamp(), 40);
        }
        C.due("promise 19: more than 1000", x.stamp(), BLUNT);
        C.due("promise 19: 1000 times", x.sharpen(1), 1000);
        C.due("promise 19: sharp again", x.stamp(), 40);
    }

    private static void promise20Sharpen() {
        BUSY.refuses("promise 20: no such letter", UNKNOWN, 1, 26, (x, v) -> x.sharpen(v));
        FRESH.keeps("promise 20: never stamped, 1", 0, x -> x.sharpen(1));
        FRESH.keeps("promise 20: never stamped, 26", 0, x -> x.sharpen(26));
        Bindery x = FRESH.open();
        Shops.write(x, "azz");
        x.stamp();
        x.stamp();
        C.due("promise 20: z", x.sharpen(26), 4);
        C.due("promise 20: a is not sharpened by that", x.sharpen(1), 2);
        C.due("promise 20: z is sharp", x.sharpen(26), 0);
        C.due("promise 20: a is sharp", x.sharpen(1), 0);
        x.last(2);
        C.due("promise 20: counted from then", x.stamp(), 3);
        C.due("promise 20: z would be blunt", x.stamp(), BLUNT);
        x.sharpen(26);
        C.due("promise 20: z is sharp again", x.stamp(), 3);
    }

    private static void promise21Last() {
        BUSY.refuses("promise 21: LAST", OUTSIDE, 1, 1000, (x, v) -> x.last(v));
        Bindery x = FRESH.open();
        C.due("promise 21: 100 at first", x.last(1), 100);
        C.due("promise 21: 1 taken", x.last(1000), 1);
        C.due("promise 21: 1000 taken", x.last(1000), 1000);
        C.due("promise 21: refused", x.last(1001), OUTSIDE);
        C.due("promise 21: refused", x.last(0), OUTSIDE);
        C.due("promise 21: 1000 still", x.last(5), 1000);
        Shops.write(x, "aaaa");
        x.stamp();
        C.due("promise 21: nothing that was stamped is looked at", x.last(1), 5);
        C.due("promise 21: it is blunt now", x.stamp(), BLUNT);
        C.due("promise 21: stamped as often still", x.last(8), 1);
        C.due("promise 21: four more", x.stamp(), 4);
        C.due("promise 21: no more", x.stamp(), BLUNT);
        C.due("promise 21: eight", x.sharpen(1), 8);
    }

    private static void lines(String told, Bindery x, int... words) {
        for (int line = 0; line < words.length; line++) {
            C.due(told + ", line " + line, x.line(line), words[line]);
        }
        C.due(told + ", no more", x.line(words.length), OUTSIDE);
    }
}
