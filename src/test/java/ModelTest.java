import java.util.Random;

/** Random runs, each call answered by the class and by the plain model: all promises, and that no call throws. */
public final class ModelTest {
    private static final String[] NAMES = {
        "book", "gather", "look", "pass", "told", "there", "gone", "hours", "promise", "plan", "planned", "delays",
        "width", "sign", "wipe", "broken", "line", "stamp", "sharpen", "last", "skin", "flaw", "cut", "covers", "spot",
        "days", "rate", "rateAt", "wages", "count"
    };
    private static final int[] WILD = {
        Integer.MIN_VALUE, Integer.MIN_VALUE + 1, -1000, -2, -1, 0, 1, 2, 5, 6, 7, 10, 11, 12, 13, 16, 17, 20, 21, 26, 27,
        30, 31, 50, 51, 100, 101, 400, 401, 500, 501, 1000, 1001, 2000, 2001, 65535, 65536, Integer.MAX_VALUE - 1,
        Integer.MAX_VALUE
    };
    // The calls of each part of the document, by their places in NAMES.
    private static final int[][] PARTS = {
        {0, 1, 2, 2, 2, 2, 2, 3, 3, 3, 4, 5, 6, 25, 26, 27, 28, 28, 29},
        {0, 0, 7, 7, 7, 7, 8, 8, 9, 10, 10, 11, 11},
        {12, 13, 13, 13, 13, 13, 13, 13, 13, 13, 13, 13, 13, 14, 15, 15, 16, 16, 17, 18, 19, 29},
        {12, 12, 13, 13, 13, 13, 15, 15, 15, 16, 16, 16, 17, 18, 29},
        {20, 21, 22, 23, 24, 24},
        {0, 1, 2, 3, 4, 5, 6, 7, 8, 9, 10, 11, 12, 13, 14, 15, 16, 17, 18, 19, 20, 21, 22, 23, 24, 25, 26, 27, 28, 29}
    };
    private static final Check C = new Check();

    public static void main(String[] args) {
        for (int run = 0; run < 420 && C.clean(); run++) {
            oneRun(run, PARTS[run % PARTS.length]);
        }
        C.end();
    }

    private static void oneRun(int run, int[] calls) {
        Random random = new Random(run);
        Bindery x = new Bindery();
        PlainModel m = new PlainModel();
        int wildness = random.nextInt(3) * 5;
        for (int i = 0; i < 512 && C.clean(); i++) {
            int call = calls[random.nextInt(calls.length)];
            int[] a = arguments(call, random, m);
            for (int j = 0; j < 4; j++) {
                if (random.nextInt(100) < wildness) {
                    a[j] = WILD[random.nextInt(WILD.length)];
                }
            }
            String told = "run " + run + ", call " + i + ": " + NAMES[call] + java.util.Arrays.toString(a);
            C.due(told, real(x, call, a), plain(m, call, a));
        }
    }

    /** Arguments that are mostly as the document asks; the fourth and others that a call has not are ignored. */
    private static int[] arguments(int call, Random r, PlainModel m) {
        int book = r.nextInt(Math.max(1, Math.min(10, m.count(0) + (r.nextInt(20) == 0 ? 1 : 0))));
        int skin = r.nextInt(Math.max(1, m.count(1)));
        int day = m.count(3);
        int bench = r.nextInt(5);
        switch (NAMES[call]) {
            case "gather": return row(book, 1 + r.nextInt(16), 0, 0);
            case "look":
                int gathering = r.nextInt(Math.max(1, m.told(book, 1)));
                int seen = Math.max(0, m.there(book, gathering));
                return row(book, gathering, r.nextInt(3) == 0 ? seen ^ 1 << r.nextInt(16) : seen, 0);
            case "told": return row(book, r.nextInt(4), 0, 0);
            case "there": return row(book, r.nextInt(6), 0, 0);
            case "gone": return row(book, bench, r.nextInt(2), 0);
            case "hours": return row(book, bench, r.nextInt(r.nextBoolean() ? 4 : 51), 0);
            case "promise": return row(book, r.nextInt(r.nextBoolean() ? 3 : 31), r.nextInt(r.nextInt(200) + 1), r.nextInt(r.nextBoolean() ? 3 : 101), 0);
            case "plan": return row(r.nextInt(1 << m.count(0)) & r.nextInt(1024), 0, 0, 0);
            case "planned": return row(r.nextInt(7), r.nextInt(2), 0, 0);
            case "pass": case "delays": return row(book, 0, 0, 0);
            case "width": return row(r.nextInt(27), r.nextInt(21), 0, 0);
            case "sign": return row(r.nextInt(3) == 0 ? 0 : 1 + r.nextInt(26), 0, 0, 0);
            case "broken": return row(1 + r.nextInt(r.nextBoolean() ? 60 : 400), 1 + r.nextInt(6), 0, 0);
            case "line": return row(r.nextInt(4), 0, 0, 0);
            case "sharpen": return row(1 + r.nextInt(26), 0, 0, 0);
            case "last": return row(1 + r.nextInt(30), 0, 0, 0);
            case "skin": return row(1 + r.nextInt(12), 1 + r.nextInt(12), r.nextInt(3), 0);
            case "cut": return row(skin, 1 + r.nextInt(5), 1 + r.nextInt(5), 0);
            case "covers": return row(r.nextInt(3), 1 + r.nextInt(4), 1 + r.nextInt(4), 1 + r.nextInt(8));
            case "flaw": case "spot": return row(skin, r.nextInt(12), r.nextInt(12), 0);
            case "days": return row(1 + r.nextInt(4), 0, 0, 0);
            case "rate": return row(bench, r.nextInt(day + 5), r.nextInt(501), 0);
            case "rateAt": return row(bench, r.nextInt(day + 5), r.nextInt(day + 5), 0);
            case "wages": return row(r.nextInt(day + 1), day, r.nextInt(day + 5), 0);
            case "count": return row(r.nextInt(7), 0, 0, 0);
            default: return row(0, 0, 0, 0);
        }
    }

    private static int[] row(int... values) {
        return java.util.Arrays.copyOf(values, 4);
    }

    private static int real(Bindery x, int call, int[] a) {
        switch (NAMES[call]) {
            case "book": return x.book();
            case "gather": return x.gather(a[0], a[1]);
            case "look": return x.look(a[0], a[1], a[2]);
            case "pass": return x.pass(a[0]);
            case "told": return x.told(a[0], a[1]);
            case "there": return x.there(a[0], a[1]);
            case "gone": return x.gone(a[0], a[1], a[2]);
            case "hours": return x.hours(a[0], a[1], a[2]);
            case "promise": return x.promise(a[0], a[1], a[2], a[3]);
            case "plan": return x.plan(a[0]);
            case "planned": return x.planned(a[0], a[1]);
            case "delays": return x.delays(a[0]);
            case "width": return x.width(a[0], a[1]);
            case "sign": return x.sign(a[0]);
            case "wipe": return x.wipe();
            case "broken": return x.broken(a[0], a[1]);
            case "line": return x.line(a[0]);
            case "stamp": return x.stamp();
            case "sharpen": return x.sharpen(a[0]);
            case "last": return x.last(a[0]);
            case "skin": return x.skin(a[0], a[1], a[2]);
            case "flaw": return x.flaw(a[0], a[1], a[2]);
            case "cut": return x.cut(a[0], a[1], a[2]);
            case "covers": return x.covers(a[0], a[1], a[2], a[3]);
            case "spot": return x.spot(a[0], a[1], a[2]);
            case "days": return x.days(a[0]);
            case "rate": return x.rate(a[0], a[1], a[2]);
            case "rateAt": return x.rateAt(a[0], a[1], a[2]);
            case "wages": return x.wages(a[0], a[1], a[2]);
            default: return x.count(a[0]);
        }
    }

    private static int plain(PlainModel x, int call, int[] a) {
        switch (NAMES[call]) {
            case "book": return x.book();
            case "gather": return x.gather(a[0], a[1]);
            case "look": return x.look(a[0], a[1], a[2]);
            case "pass": return x.pass(a[0]);
            case "told": return x.told(a[0], a[1]);
            case "there": return x.there(a[0], a[1]);
            case "gone": return x.gone(a[0], a[1], a[2]);
            case "hours": return x.hours(a[0], a[1], a[2]);
            case "promise": return x.promise(a[0], a[1], a[2], a[3]);
            case "plan": return x.plan(a[0]);
            case "planned": return x.planned(a[0], a[1]);
            case "delays": return x.delays(a[0]);
            case "width": return x.width(a[0], a[1]);
            case "sign": return x.sign(a[0]);
            case "wipe": return x.wipe();
            case "broken": return x.broken(a[0], a[1]);
            case "line": return x.line(a[0]);
            case "stamp": return x.stamp();
            case "sharpen": return x.sharpen(a[0]);
            case "last": return x.last(a[0]);
            case "skin": return x.skin(a[0], a[1], a[2]);
            case "flaw": return x.flaw(a[0], a[1], a[2]);
            case "cut": return x.cut(a[0], a[1], a[2]);
            case "covers": return x.covers(a[0], a[1], a[2], a[3]);
            case "spot": return x.spot(a[0], a[1], a[2]);
            case "days": return x.days(a[0]);
            case "rate": return x.rate(a[0], a[1], a[2]);
            case "rateAt": return x.rateAt(a[0], a[1], a[2]);
            case "wages": return x.wages(a[0], a[1], a[2]);
            default: return x.count(a[0]);
        }
    }
}
