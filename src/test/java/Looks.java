import java.util.ArrayList;
import java.util.List;

/** All that the calls can tell of a state. Most looks change it, so each is taken on an object of its own. */
final class Looks {
    static final int HOW_MANY = 18;

    private static final int FIRST_SKIN_LOOK = 5, FIRST_OTHER_LOOK = 11;
    private static final int[] DAYS = {0, 3, 6, 999, 1000};

    private Looks() {
    }

    static List<Integer> at(Bindery x, int look) {
        List<Integer> answers = new ArrayList<>();
        if (look < FIRST_SKIN_LOOK) {
            hoursAt(x, look, answers);
        } else if (look < FIRST_OTHER_LOOK) {
            places(x, look - FIRST_SKIN_LOOK, answers);
        } else {
            switch (look) {
                case 11: books(x, answers); break;
                case 12: plan(x, answers); break;
                case 13: promises(x, answers); break;
                case 14: tools(x, answers); break;
                case 15: text(x, answers); break;
                case 16: tones(x, answers); break;
                default: ledger(x, answers); break;
            }
        }
        return answers;
    }

    private static void books(Bindery x, List<Integer> answers) {
        for (int what = 0; what <= 6; what++) {
            answers.add(x.count(what));
        }
        int books = x.count(0);
        for (int book = 0; book < books; book++) {
            for (int what = 0; what <= 3; what++) {
                answers.add(x.told(book, what));
            }
            int gatherings = x.told(book, 1);
            for (int gathering = 0; gathering < gatherings; gathering++) {
                answers.add(x.there(book, gathering));
            }
            for (int bench = 0; bench <= 4; bench++) {
                answers.add(x.gone(book, bench, 0));
                answers.add(x.gone(book, bench, 1));
            }
        }
        // Whether all was looked at shows in no other way.
        for (int book = 0; book < books; book++) {
            answers.add(x.pass(book));
            for (int gathering = 0; gathering < x.told(book, 1); gathering++) {
                answers.add(x.look(book, gathering, 0));
                answers.add(x.pass(book));
            }
        }
        answers.add(x.book());
    }

    /** The hours of one bench alone: all others take none. */
    private static void hoursAt(Bindery x, int asked, List<Integer> answers) {
        int books = x.count(0);
        for (int book = 0; book < books; book++) {
            for (int bench = 0; bench <= 4; bench++) {
                if (bench != asked) {
                    x.hours(book, bench, 0);
                }
            }
            answers.add(x.plan(1 << book));
            answers.add(x.planned(0, 1));
        }
    }

    /** Three ends of each book tell its drying, its hour and its price. */
    private static void promises(Bindery x, List<Integer> answers) {
        int books = x.count(0);
        for (int book = 0; book < books; book++) {
            for (int hours = 0; hours <= 50; hours += 25) {
                for (int bench = 0; bench <= 4; bench++) {
                    x.hours(book, bench, hours);
                }
                answers.add(x.plan(1 << book));
                answers.add(x.planned(0, 1));
            }
        }
    }

    private static void plan(Bindery x, List<Integer> answers) {
        for (int place = 0; place <= 7; place++) {
            answers.add(x.planned(place, 0));
            answers.add(x.planned(place, 1));
        }
        for (int book = 0; book <= 10; book++) {
            answers.add(x.delays(book));
        }
    }

    private static void tools(Bindery x, List<Integer> answers) {
        for (int line = 0; line <= 6; line++) {
            answers.add(x.line(line));
        }
        for (int letter = 0; letter <= 26; letter++) {
            answers.add(x.width(letter, 7));
        }
        for (int letter = 1; letter <= 26; letter++) {
            answers.add(x.sharpen(letter));
        }
        answers.add(x.last(1));
    }

    /** The lines tell the order of the letters, as each has a width of its own; the stamps tell how many there are. */
    private static void text(Bindery x, List<Integer> answers) {
        for (int letter = 0; letter <= 26; letter++) {
            x.width(letter, 1 + letter % 20);
        }
        for (int w = 20; w <= 400; w += 76) {
            answers.add(x.broken(w, 6));
            for (int line = 0; line <= 5; line++) {
                answers.add(x.line(line));
            }
        }
        x.last(1000);
        for (int letter = 1; letter <= 26; letter++) {
            x.sharpen(letter);
        }
        answers.add(x.stamp());
        for (int letter = 1; letter <= 26; letter++) {
            answers.add(x.sharpen(letter));
        }
        answers.add(x.sign(1));
        answers.add(x.wipe());
    }

    private static void places(Bindery x, int skin, List<Integer> answers) {
        for (int place = 0; place < 13 * 13; place++) {
            answers.add(x.spot(skin, place % 13, place / 13));
        }
        // The number of the next cover: where it is cut, it is seen.
        int corner = x.cut(skin, 1, 1);
        answers.add(corner);
        answers.add(corner < 0 ? corner : x.spot(skin, corner % 100, corner / 100));
    }

    private static void tones(Bindery x, List<Integer> answers) {
        for (int tone = 0; tone <= 9; tone++) {
            answers.add(x.covers(tone, 1, 1, 1));
        }
        for (int skin = 0; skin <= 5; skin++) {
            answers.add(x.cut(skin, 1, 1));
        }
        answers.add(x.skin(1, 1, 0));
    }

    private static void ledger(Bindery x, List<Integer> answers) {
        for (int day : DAYS) {
            for (int known : DAYS) {
                for (int bench = 0; bench <= 4; bench++) {
                    answers.add(x.rateAt(bench, day, known));
                }
            }
            answers.add(x.wages(0, 1000, day));
        }
        for (int day = 0; day <= 10; day++) {
            answers.add(x.wages(day, day, 1000));
        }
        answers.add(x.wages(1000, 1000, 1000));
        answers.add(x.days(1));
        answers.add(x.rate(0, 0, 1));
    }
}
