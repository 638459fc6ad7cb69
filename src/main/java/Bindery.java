/** A bindery: its books, the order of its benches, spines, skins and wages. */
public final class Bindery {
    public static final int NONE = -1, UNKNOWN = -2, OUTSIDE = -3, NOT = -4, BLUNT = -5, FULL = -6;

    private static final int BENCHES = 5;
    private static final int DONE = 5;
    private static final int MOST_BOOKS = 10;
    private static final int MOST_GATHERINGS = 6;
    private static final int MOST_LEAVES = 16;
    private static final int MOST_HOURS = 50;
    private static final int MOST_DRIES = 30;
    private static final int LAST_HOUR = 2000;
    private static final int MOST_PRICE = 100;
    private static final int MOST_PLANNED = 7;
    private static final int LETTERS = 26;
    private static final int MOST_WIDTH = 20;
    private static final int MOST_SIGNS = 40;
    // Two words need a gap between them, so every second sign at most begins one.
    private static final int MOST_WORDS = MOST_SIGNS / 2;
    private static final int MOST_LINES = 6;
    private static final int WIDEST_LINE = 400;
    private static final int MOST_LAST = 1000;
    private static final int MOST_SKINS = 6;
    private static final int MOST_SIDE = 12;
    private static final int MOST_TONE = 9;
    private static final int MOST_ALIKE = 8;
    private static final int FREE = 0;
    private static final int FLAWED = 1;
    private static final int FIRST_COVER = 2;
    private static final int LAST_DAY = 1000;
    private static final int MOST_DAYS = 100;
    private static final int MOST_RATES = 30;
    private static final int MOST_PENCE = 500;
    // No book can leave more benches than there are.
    private static final int MOST_PASSES = MOST_BOOKS * BENCHES;
    // More than any cost or end can be: seven books cost under two million, six lines under one.
    private static final int BEYOND_ALL = 1000000000;

    private final Book[] shelf = new Book[MOST_BOOKS];
    private final Planner planner = new Planner();
    private final Spine spine = new Spine();
    private final Skin[] hides = new Skin[MOST_SKINS];
    private final Ledger ledger = new Ledger();
    private int bookCount = 0;
    private int skinCount = 0;
    private int today = 0;

    public Bindery() {
    }

    // ---- books

    public int book() {
        if (bookCount >= MOST_BOOKS) {
            return FULL;
        }
        shelf[bookCount] = new Book();
        bookCount++;
        return bookCount - 1;
    }

    public int gather(int book, int leaves) {
        Book found = bookAt(book);
        if (found == null) {
            return UNKNOWN;
        }
        if (!within(leaves, 1, MOST_LEAVES)) {
            return OUTSIDE;
        }
        if (found.at != 0) {
            return NOT;
        }
        return found.addGathering(leaves);
    }

    public int look(int book, int gathering, int seen) {
        Book found = bookAt(book);
        if (found == null || !found.hasGathering(gathering)) {
            return UNKNOWN;
        }
        if (!found.hasLeaves(gathering, seen)) {
            return OUTSIDE;
        }
        if (found.at == DONE) {
            return NOT;
        }
        return found.inspect(gathering, seen);
    }

    public int pass(int book) {
        Book found = bookAt(book);
        if (found == null) {
            return UNKNOWN;
        }
        if (!found.mayMoveOn()) {
            return NOT;
        }
        ledger.notePass(found.at, today);
        return found.moveOn();
    }

    public int told(int book, int what) {
        Book found = bookAt(book);
        if (found == null) {
            return UNKNOWN;
        }
        switch (what) {
            case 0:
                return found.at;
            case 1:
                return found.gatherings;
            case 2:
                return found.leavesBelieved();
            case 3:
                return found.leavesInAll();
            default:
                return OUTSIDE;
        }
    }

    public int there(int book, int gathering) {
        Book found = bookAt(book);
        if (found == null || !found.hasGathering(gathering)) {
            return UNKNOWN;
        }
        return found.believed[gathering];
    }

    public int gone(int book, int bench, int way) {
        Book found = bookAt(book);
        if (found == null || !isBench(bench)) {
            return UNKNOWN;
        }
        switch (way) {
            case 0:
                return found.lostAt[bench];
            case 1:
                return found.foundAt[bench];
            default:
                return OUTSIDE;
        }
    }

    // ---- orders

    public int hours(int book, int bench, int hours) {
        Book found = bookAt(book);
        if (found == null || !isBench(bench)) {
            return UNKNOWN;
        }
        if (!within(hours, 0, MOST_HOURS)) {
            return OUTSIDE;
        }
        found.needs[bench] = hours;
        return 1;
    }

    public int promise(int book, int dries, int hour, int price) {
        Book found = bookAt(book);
        if (found == null) {
            return UNKNOWN;
        }
        if (!within(dries, 0, MOST_DRIES) || !within(hour, 0, LAST_HOUR) || !within(price, 0, MOST_PRICE)) {
            return OUTSIDE;
        }
        found.drying = dries;
        found.promisedFor = hour;
        found.price = price;
        return 1;
    }

    public int plan(int set) {
        // An unsigned shift, so that the sign bit too counts as a bit of no book.
        if (set >>> bookCount != 0) {
            return UNKNOWN;
        }
        if (!within(Integer.bitCount(set), 1, MOST_PLANNED)) {
            return OUTSIDE;
        }
        planner.clear();
        for (int number = 0; number < bookCount; number++) {
            Book member = bookAt(number);
            if (member != null && (set >> number & 1) == 1) {
                planner.enlist(number, member);
            }
        }
        return planner.arrange();
    }

    public int planned(int i, int what) {
        if (!planner.hasPlace(i)) {
            return OUTSIDE;
        }
        switch (what) {
            case 0:
                return planner.numberAt(i);
            case 1:
                return planner.ends[i];
            default:
                return OUTSIDE;
        }
    }

    public int delays(int book) {
        if (bookAt(book) == null) {
            return UNKNOWN;
        }
        int place = planner.placeOf(book);
        if (place == NONE) {
            return NOT;
        }
        return planner.delayedBy(place);
    }

    // ---- spines

    public int width(int letter, int w) {
        if (!isSign(letter)) {
            return UNKNOWN;
        }
        if (!within(w, letter == 0 ? 0 : 1, MOST_WIDTH)) {
            return OUTSIDE;
        }
        int before = spine.widths[letter];
        spine.widths[letter] = w;
        return before;
    }

    public int sign(int letter) {
        if (!isSign(letter)) {
            return UNKNOWN;
        }
        return spine.addSign(letter);
    }

    public int wipe() {
        int before = spine.length;
        spine.length = 0;
        return before;
    }

    public int broken(int w, int k) {
        if (!within(w, 1, WIDEST_LINE) || !within(k, 1, MOST_LINES)) {
            return OUTSIDE;
        }
        return spine.breakUp(w, k);
    }

    public int line(int i) {
        if (!within(i, 0, spine.lines - 1)) {
            return OUTSIDE;
        }
        return spine.lineWords[i];
    }

    public int stamp() {
        int letters = spine.countLetters();
        if (letters == 0) {
            return NOT;
        }
        if (spine.wouldBlunt()) {
            return BLUNT;
        }
        spine.stampAll();
        return letters;
    }

    public int sharpen(int letter) {
        if (!within(letter, 1, LETTERS)) {
            return UNKNOWN;
        }
        int before = spine.stamped[letter];
        spine.stamped[letter] = 0;
        return before;
    }

    public int last(int v) {
        if (!within(v, 1, MOST_LAST)) {
            return OUTSIDE;
        }
        int before = spine.lasting;
        spine.lasting = v;
        return before;
    }

    // ---- skins

    public int skin(int w, int h, int tone) {
        if (!isSize(w, h) || !within(tone, 0, MOST_TONE)) {
            return OUTSIDE;
        }
        if (skinCount >= MOST_SKINS) {
            return FULL;
        }
        hides[skinCount] = new Skin(w, h, tone);
        skinCount++;
        return skinCount - 1;
    }

    public int flaw(int skin, int x, int y) {
        Skin hide = skinAt(skin);
        if (hide == null) {
            return UNKNOWN;
        }
        if (!hide.hasPlace(x, y)) {
            return OUTSIDE;
        }
        if (hide.stateOf(x, y) != FREE) {
            return NOT;
        }
        hide.fill(x, y, 1, 1, FLAWED);
        return 1;
    }

    public int cut(int skin, int w, int h) {
        Skin hide = skinAt(skin);
        if (hide == null) {
            return UNKNOWN;
        }
        if (!isSize(w, h)) {
            return OUTSIDE;
        }
        int corner = hide.cutCover(w, h);
        return corner == NONE ? NOT : corner;
    }

    public int covers(int tone, int w, int h, int n) {
        if (!within(tone, 0, MOST_TONE) || !isSize(w, h) || !within(n, 1, MOST_ALIKE)) {
            return OUTSIDE;
        }
        int missing = n;
        int skinsUsed = 0;
        for (int number = 0; number < skinCount; number++) {
            Skin hide = skinAt(number);
            if (hide != null && hide.tone == tone) {
                int taken = hide.cutAlike(w, h, missing);
                missing -= taken;
                skinsUsed += taken > 0 ? 1 : 0;
            }
        }
        if (missing > 0) {
            takeBackAlike(tone);
            return NOT;
        }
        return skinsUsed;
    }

    public int spot(int skin, int x, int y) {
        Skin hide = skinAt(skin);
        if (hide == null) {
            return UNKNOWN;
        }
        if (!hide.hasPlace(x, y)) {
            return OUTSIDE;
        }
        return hide.stateOf(x, y);
    }

    // ---- wages

    public int days(int n) {
        if (!within(n, 1, MOST_DAYS) || today + n > LAST_DAY) {
            return OUTSIDE;
        }
        today += n;
        return today;
    }

    public int rate(int bench, int from, int pence) {
        if (!isBench(bench)) {
            return UNKNOWN;
        }
        if (!isDay(from) || !within(pence, 0, MOST_PENCE)) {
            return OUTSIDE;
        }
        return ledger.noteRate(bench, from, pence, today);
    }

    public int rateAt(int bench, int d, int t) {
        if (!isBench(bench)) {
            return UNKNOWN;
        }
        if (!isDay(d) || !isDay(t)) {
            return OUTSIDE;
        }
        return ledger.penceAt(bench, d, t);
    }

    public int wages(int a, int b, int t) {
        if (!isDay(a) || !isDay(b) || !isDay(t)) {
            return OUTSIDE;
        }
        return ledger.earned(a, b, t);
    }

    public int count(int what) {
        switch (what) {
            case 0:
                return bookCount;
            case 1:
                return skinCount;
            case 2:
                return ledger.passes;
            case 3:
                return today;
            case 4:
                return spine.length;
            case 5:
                return spine.readWords();
            case 6:
                return ledger.rates;
            default:
                return OUTSIDE;
        }
    }

    private static boolean within(int value, int least, int most) {
        return value >= least && value <= most;
    }

    private static boolean isBench(int bench) {
        return within(bench, 0, BENCHES - 1);
    }

    private static boolean isSign(int letter) {
        return within(letter, 0, LETTERS);
    }

    private static boolean isSize(int w, int h) {
        return within(w, 1, MOST_SIDE) && within(h, 1, MOST_SIDE);
    }

    private static boolean isDay(int day) {
        return within(day, 0, LAST_DAY);
    }

    private Book bookAt(int number) {
        return within(number, 0, bookCount - 1) ? shelf[number] : null;
    }

    private Skin skinAt(int number) {
        return within(number, 0, skinCount - 1) ? hides[number] : null;
    }

    private void takeBackAlike(int tone) {
        for (int number = 0; number < skinCount; number++) {
            Skin hide = skinAt(number);
            if (hide != null && hide.tone == tone) {
                hide.takeBackAlike();
            }
        }
    }

    /** A book: its gatherings, the bench at which it is, and what a plan needs of it. */
    private static final class Book {
        final int[] leaves = new int[MOST_GATHERINGS];
        final int[] believed = new int[MOST_GATHERINGS];
        final int[] lostAt = new int[BENCHES];
        final int[] foundAt = new int[BENCHES];
        final int[] needs = new int[BENCHES];
        int gatherings = 0;
        int at = 0;
        // Bit i: gathering i was looked at since the book came to its bench.
        int lookedAt = 0;
        int drying = 0;
        int promisedFor = LAST_HOUR;
        int price = 0;

        Book() {
            for (int bench = 0; bench < BENCHES; bench++) {
                needs[bench] = 1;
            }
        }

        int addGathering(int howMany) {
            if (gatherings >= MOST_GATHERINGS) {
                return FULL;
            }
            leaves[gatherings] = howMany;
            believed[gatherings] = allOf(howMany);
            gatherings++;
            return gatherings - 1;
        }

        boolean hasGathering(int gathering) {
            return within(gathering, 0, gatherings - 1);
        }

        boolean hasLeaves(int gathering, int seen) {
            return (seen & ~allOf(leaves[gathering])) == 0;
        }

        int inspect(int gathering, int seen) {
            int lost = Integer.bitCount(believed[gathering] & ~seen);
            int found = Integer.bitCount(seen & ~believed[gathering]);
            if (at < BENCHES) {
                lostAt[at] += lost;
                foundAt[at] += found;
            }
            believed[gathering] = seen;
            lookedAt |= 1 << gathering;
            return lost + found;
        }

        boolean mayMoveOn() {
            return at != DONE && gatherings > 0 && lookedAt == allOf(gatherings);
        }

        int moveOn() {
            at++;
            lookedAt = 0;
            return at;
        }

        int leavesBelieved() {
            int sum = 0;
            for (int i = 0; i < gatherings; i++) {
                sum += Integer.bitCount(believed[i]);
            }
            return sum;
        }

        int leavesInAll() {
            int sum = 0;
            for (int i = 0; i < gatherings; i++) {
                sum += leaves[i];
            }
            return sum;
        }

        private static int allOf(int howMany) {
            return (1 << howMany) - 1;
        }
    }

    /** The plan made last. It copies what it needs of the books, so that it stays as all was then. */
    private static final class Planner {
        final int[] ends = new int[MOST_PLANNED];
        private final int[] numbers = new int[MOST_PLANNED];
        private final int[] needs = new int[MOST_PLANNED * BENCHES];
        private final int[] drying = new int[MOST_PLANNED];
        private final int[] promisedFor = new int[MOST_PLANNED];
        private final int[] prices = new int[MOST_PLANNED];
        // Members in the order under trial, and in the best order so far.
        private final int[] trial = new int[MOST_PLANNED];
        private final int[] best = new int[MOST_PLANNED];
        // Row d: when each bench is left by the first d books; row 0 stays 0.
        private final int[] clocks = new int[(MOST_PLANNED + 1) * BENCHES];
        private int members = 0;
        private int leastCost = 0;
        private int leastEnd = 0;

        void clear() {
            members = 0;
        }

        void enlist(int number, Book book) {
            if (members >= MOST_PLANNED) {
                return;
            }
            numbers[members] = number;
            for (int bench = 0; bench < BENCHES; bench++) {
                needs[members * BENCHES + bench] = book.needs[bench];
            }
            drying[members] = book.drying;
            promisedFor[members] = book.promisedFor;
            prices[members] = book.price;
            members++;
        }

        int arrange() {
            leastCost = BEYOND_ALL;
            leastEnd = BEYOND_ALL;
            search(0, 0, 0);
            for (int place = 0; place < members; place++) {
                ends[place] = work(place, best[place]);
            }
            return leastCost;
        }

        boolean hasPlace(int place) {
            return within(place, 0, members - 1);
        }

        int numberAt(int place) {
            return numbers[best[place]];
        }

        int placeOf(int number) {
            for (int place = 0; place < members; place++) {
                if (numberAt(place) == number) {
                    return place;
                }
            }
            return NONE;
        }

        int delayedBy(int first) {
            int late = 0;
            int depth = 1;
            work(0, best[first]);
            for (int place = 0; place < members; place++) {
                if (place != first) {
                    int end = work(depth, best[place]);
                    depth++;
                    late |= end > ends[place] ? 1 << numberAt(place) : 0;
                }
            }
            return late;
        }

        // Members stand by number, so orders are tried from the first to the last of them.
        private void search(int depth, int taken, int costSoFar) {
            if (depth >= members) {
                return;
            }
            for (int member = 0; member < members; member++) {
                if ((taken >> member & 1) == 1) {
                    continue;
                }
                int end = work(depth, member);
                int cost = costSoFar + prices[member] * Math.max(0, end - promisedFor[member]);
                // Neither the cost nor the end falls with more books: what is no better now never will be.
                if (cost > leastCost || cost == leastCost && end >= leastEnd) {
                    continue;
                }
                trial[depth] = member;
                if (depth + 1 == members) {
                    keepTrial(cost, end);
                } else {
                    search(depth + 1, taken | 1 << member, cost);
                }
            }
        }

        private void keepTrial(int cost, int end) {
            leastCost = cost;
            leastEnd = end;
            for (int place = 0; place < members; place++) {
                best[place] = trial[place];
            }
        }

        /** The end of a member that comes behind the books of row depth; fills the row behind that. */
        private int work(int depth, int member) {
            int left = 0;
            for (int bench = 0; bench < BENCHES; bench++) {
                if (bench == 3) {
                    left += drying[member];
                }
                int begins = Math.max(left, clocks[depth * BENCHES + bench]);
                left = begins + needs[member * BENCHES + bench];
                clocks[(depth + 1) * BENCHES + bench] = left;
            }
            return left;
        }
    }

    /** The text of a spine, how it was broken last, and the tools that stamp it. */
    private static final class Spine {
        private static final int ROW = MOST_WORDS + 1;

        final int[] widths = new int[LETTERS + 1];
        final int[] stamped = new int[LETTERS + 1];
        final int[] lineWords = new int[MOST_LINES];
        int length = 0;
        int lines = 0;
        int lasting = 100;
        private final int[] signs = new int[MOST_SIGNS];
        private final int[] wanted = new int[LETTERS + 1];
        private final int[] wordWidths = new int[MOST_WORDS];
        // Row l, column i: the least cost of the words from i on in just l lines, and the words of the first of these.
        private final int[] costs = new int[(MOST_LINES + 1) * ROW];
        private final int[] firstWords = new int[(MOST_LINES + 1) * ROW];
        private int words = 0;

        Spine() {
            widths[0] = 3;
            for (int letter = 1; letter <= LETTERS; letter++) {
                widths[letter] = 5;
            }
        }

        int addSign(int letter) {
            if (length >= MOST_SIGNS) {
                return FULL;
            }
            signs[length] = letter;
            length++;
            return length;
        }

        int readWords() {
            words = 0;
            boolean inWord = false;
            for (int i = 0; i < length; i++) {
                int letter = signs[i];
                if (letter != 0 && !inWord && words < MOST_WORDS) {
                    wordWidths[words] = 0;
                    words++;
                }
                inWord = letter != 0;
                if (inWord && words > 0) {
                    wordWidths[words - 1] += widths[letter];
                }
            }
            return words;
        }

        int breakUp(int w, int most) {
            if (readWords() == 0) {
                return NOT;
            }
            for (int i = 0; i <= words; i++) {
                costs[i] = i == words ? 0 : BEYOND_ALL;
            }
            int bestLines = 0;
            for (int l = 1; l <= most; l++) {
                for (int i = 0; i <= words; i++) {
                    weigh(l, i, w);
                }
                // Row 0 is impossible at word 0, so any way that there is betters it.
                if (costs[l * ROW] < costs[bestLines * ROW]) {
                    bestLines = l;
                }
            }
            layOut(bestLines);
            return bestLines == 0 ? NONE : costs[bestLines * ROW];
        }

        private void weigh(int l, int from, int w) {
            int least = BEYOND_ALL;
            int fewest = 0;
            int wide = -widths[0];
            for (int i = from; i < words; i++) {
                wide += widths[0] + wordWidths[i];
                if (wide > w) {
                    break;
                }
                int rest = costs[(l - 1) * ROW + i + 1];
                int square = (w - wide) * (w - wide);
                if (rest != BEYOND_ALL && rest + square < least) {
                    least = rest + square;
                    fewest = i - from + 1;
                }
            }
            costs[l * ROW + from] = least;
            firstWords[l * ROW + from] = fewest;
        }

        private void layOut(int bestLines) {
            lines = bestLines;
            int from = 0;
            for (int i = 0; i < lines; i++) {
                lineWords[i] = firstWords[(lines - i) * ROW + from];
                from += lineWords[i];
            }
        }

        int countLetters() {
            int letters = 0;
            for (int letter = 1; letter <= LETTERS; letter++) {
                wanted[letter] = 0;
            }
            for (int i = 0; i < length; i++) {
                if (signs[i] != 0) {
                    wanted[signs[i]]++;
                    letters++;
                }
            }
            return letters;
        }

        /** Whether the letters that were counted last would make one of them blunt. */
        boolean wouldBlunt() {
            for (int letter = 1; letter <= LETTERS; letter++) {
                if (wanted[letter] > 0 && stamped[letter] + wanted[letter] > lasting) {
                    return true;
                }
            }
            return false;
        }

        void stampAll() {
            for (int letter = 1; letter <= LETTERS; letter++) {
                stamped[letter] += wanted[letter];
            }
        }
    }

    /** A skin; each of its places is free, has a flaw, or bears 2 and the number of its cover. */
    private static final class Skin {
        final int tone;
        private final int wide;
        private final int high;
        private final int[] places;
        private int coversCut = 0;
        private int coversAhead = 0;

        Skin(int wide, int high, int tone) {
            this.wide = wide;
            this.high = high;
            this.tone = tone;
            this.places = new int[wide * high];
        }

        boolean hasPlace(int x, int y) {
            return within(x, 0, wide - 1) && within(y, 0, high - 1);
        }

        int stateOf(int x, int y) {
            return places[y * wide + x];
        }

        void fill(int x, int y, int w, int h, int state) {
            for (int row = y; row < y + h; row++) {
                for (int column = x; column < x + w; column++) {
                    places[row * wide + column] = state;
                }
            }
        }

        /** Cuts a cover at its first place and answers the code of that, or NONE. */
        int cutCover(int w, int h) {
            for (int y = 0; y < high; y++) {
                for (int x = 0; x < wide; x++) {
                    if (cutHere(x, y, w, h)) {
                        return x + 100 * y;
                    }
                    if (cutHere(x, y, h, w)) {
                        return x + 100 * y + 10000;
                    }
                }
            }
            return NONE;
        }

        /** Cuts as many covers as there are places for, but no more than most. */
        int cutAlike(int w, int h, int most) {
            coversAhead = coversCut;
            for (int i = 0; i < most; i++) {
                if (cutCover(w, h) == NONE) {
                    return i;
                }
            }
            return most;
        }

        /** Undoes the cutAlike that was the last. */
        void takeBackAlike() {
            for (int i = 0; i < places.length; i++) {
                if (places[i] >= FIRST_COVER + coversAhead) {
                    places[i] = FREE;
                }
            }
            coversCut = coversAhead;
        }

        private boolean cutHere(int x, int y, int w, int h) {
            if (!isFree(x, y, w, h)) {
                return false;
            }
            fill(x, y, w, h, FIRST_COVER + coversCut);
            coversCut++;
            return true;
        }

        private boolean isFree(int x, int y, int w, int h) {
            if (x + w > wide || y + h > high) {
                return false;
            }
            for (int row = y; row < y + h; row++) {
                for (int column = x; column < x + w; column++) {
                    if (places[row * wide + column] != FREE) {
                        return false;
                    }
                }
            }
            return true;
        }
    }

    /** The rates as they were told, and the passes that are paid by them. */
    private static final class Ledger {
        int rates = 0;
        int passes = 0;
        private final int[] rateBench = new int[MOST_RATES];
        private final int[] rateFrom = new int[MOST_RATES];
        private final int[] ratePence = new int[MOST_RATES];
        private final int[] rateTold = new int[MOST_RATES];
        private final int[] passBench = new int[MOST_PASSES];
        private final int[] passDay = new int[MOST_PASSES];

        int noteRate(int bench, int from, int pence, int day) {
            if (rates >= MOST_RATES) {
                return FULL;
            }
            rateBench[rates] = bench;
            rateFrom[rates] = from;
            ratePence[rates] = pence;
            rateTold[rates] = day;
            rates++;
            return rates;
        }

        void notePass(int bench, int day) {
            if (passes >= MOST_PASSES) {
                return;
            }
            passBench[passes] = bench;
            passDay[passes] = day;
            passes++;
        }

        int penceAt(int bench, int day, int known) {
            int latest = -1;
            int pence = 0;
            // Rates stand as they were told, so of those with one beginning the last stays.
            for (int i = 0; i < rates; i++) {
                boolean counts = rateBench[i] == bench && rateTold[i] <= known && rateFrom[i] <= day;
                if (counts && rateFrom[i] >= latest) {
                    latest = rateFrom[i];
                    pence = ratePence[i];
                }
            }
            return pence;
        }

        int earned(int first, int last, int known) {
            int sum = 0;
            for (int i = 0; i < passes; i++) {
                if (within(passDay[i], first, last)) {
                    sum += penceAt(passBench[i], passDay[i], known);
                }
            }
            return sum;
        }
    }
}
