import java.util.Arrays;

/**
 * Swing bridges turned by couples who quarrel on them: DOC.md says, as numbered promises, what each call answers.
 * All rows are made with the object and used again, since every call of a run lives in one room.
 */
public final class QuarrelBridges {
    public static final int NONE = -1, UNKNOWN = -1000000001, OUTSIDE = -1000000002, NOT = -1000000003, FULL = -1000000004;

    private static final int MOST_LETTERS = 240;
    private static final int MOST_BRIDGES = 6;
    private static final int MOST_THEMES = 5;
    private static final int MOST_COUPLES = 6;
    private static final int MOST_BARGES = 7;
    private static final int MOST_STAMPS = 60;
    private static final int MOST_FORCE = 9;
    private static final int MOST_GRIEVANCE = 99;
    private static final int LATEST_TIDE = 300;
    private static final int MOST_UNDONE = 20;
    private static final int MOST_IMAGES = 2;
    private static final int MOST_ENTRIES = 15;
    private static final int LAST_MINUTE = 90000;
    private static final int NEVER_RECONCILED = 999;
    private static final int ABOUT = -2;
    private static final int BILLION = 1000000000;

    private static final int WAITS = 0;
    private static final int IN_TIME = 1;
    private static final int LATE = 2;
    private static final int LIES = 3;

    private final int[] text = new int[MOST_LETTERS];
    private int letters = 0;
    private int faultAt = NONE;
    private final Reader reader = new Reader();
    private Town town = new Town();
    private Town draft = new Town();
    private final State now = new State();
    private final History past = new History();
    private final Shelf images = new Shelf(MOST_IMAGES);
    private final int[] imageSeeds = new int[MOST_IMAGES];
    private int imagesKept = 0;
    private final Book book = new Book();
    private int seed = 0;
    private final Quarrel quarrel = new Quarrel();
    private final Pairing pairing = new Pairing();
    private final Convoy convoy = new Convoy();
    private final int[] fitting = new int[MOST_COUPLES * MOST_THEMES];

    public QuarrelBridges() {
        now.begin(town);
    }

    // ---- the town

    public int feed(int letter) {
        if (letter < 0 || letter > 255) {
            return OUTSIDE;
        }
        if (letters >= MOST_LETTERS) {
            return FULL;
        }
        put(text, letters, letter);
        letters++;
        return letters;
    }

    public int town() {
        reader.read(text, letters, draft);
        letters = 0;
        faultAt = reader.faultAt;
        if (reader.fault != 0) {
            return -10 - reader.fault;
        }
        Town former = town;
        town = draft;
        draft = former;
        now.begin(town);
        past.forget();
        imagesKept = 0;
        book.clear();
        return town.bridges;
    }

    public int fault() {
        return faultAt;
    }

    public int told(int what) {
        switch (what) {
            case 0: return town.bridges;
            case 1: return town.themes;
            case 2: return town.couples;
            case 3: return town.barges;
            case 4: return town.snow;
            case 5: return letters;
            case 6: return now.minutes();
            case 7: return now.reconciledSet();
            case 8: return now.bargesOfFate(IN_TIME);
            case 9: return now.bargesOfFate(LATE);
            case 10: return now.bargesOfFate(LIES);
            case 11: return now.grievanceOfAll();
            case 12: return book.entries;
            case 13: return past.count;
            default: return OUTSIDE;
        }
    }

    public int bridge(int b, int what) {
        if (!town.hasBridge(b)) {
            return UNKNOWN;
        }
        switch (what) {
            case 0: return at(town.needs, b);
            case 1: return now.coupleAt(b);
            default: return OUTSIDE;
        }
    }

    public int couple(int c, int what) {
        if (!town.hasCouple(c)) {
            return UNKNOWN;
        }
        switch (what) {
            case 0: return now.grievanceOf(c);
            case 1: return at(town.grievances, c);
            case 2: return now.bridgeOf(c);
            case 3: return now.themeOf(c);
            case 4: return now.isReconciled(c) ? 1 : 0;
            default: return OUTSIDE;
        }
    }

    public int force(int c, int t) {
        if (!town.hasCouple(c) || !town.hasTheme(t)) {
            return UNKNOWN;
        }
        return town.forceOf(c, t);
    }

    public int barge(int v, int what) {
        if (!town.hasBarge(v)) {
            return UNKNOWN;
        }
        switch (what) {
            case 0: return at(town.upTo, v);
            case 1: return at(town.tides, v);
            case 2: return now.fateOf(v);
            case 3: return now.lyingAt(v);
            case 4: return now.passedAt(v);
            default: return OUTSIDE;
        }
    }

    // ---- what is done

    public int send(int c, int b, int t) {
        if (!town.hasCouple(c) || !town.hasBridge(b) || !town.hasTheme(t)) {
            return UNKNOWN;
        }
        int there = now.coupleAt(b);
        if (now.isReconciled(c) || (there != NONE && there != c)) {
            return NOT;
        }
        past.remember(now);
        int before = now.bridgeOf(c);
        now.place(c, b);
        now.turnTo(c, t);
        return before;
    }

    public int home(int c) {
        if (!town.hasCouple(c)) {
            return UNKNOWN;
        }
        int before = now.bridgeOf(c);
        if (before == NONE) {
            return NOT;
        }
        past.remember(now);
        now.place(c, NONE);
        return before;
    }

    public int pass(int v) {
        if (!town.hasBarge(v)) {
            return UNKNOWN;
        }
        if (now.fateOf(v) != WAITS) {
            return NOT;
        }
        if (now.minutes() > LAST_MINUTE) {
            return FULL;
        }
        past.remember(now);
        int last = Math.min(at(town.upTo, v), MOST_BRIDGES - 1);
        for (int b = 0; b <= last; b++) {
            if (!swing(b)) {
                now.lay(v, b);
                return now.minutes();
            }
        }
        now.letThrough(v, now.minutes() <= at(town.tides, v) ? IN_TIME : LATE);
        return now.minutes();
    }

    public int grieve(int c, int v) {
        if (!town.hasCouple(c)) {
            return UNKNOWN;
        }
        if (v < 1 || v > MOST_GRIEVANCE) {
            return OUTSIDE;
        }
        if (now.isReconciled(c)) {
            return NOT;
        }
        past.remember(now);
        now.embitter(c, v);
        return now.grievanceOf(c);
    }

    public int drift(int n) {
        if (n < 1 || n > 99) {
            return OUTSIDE;
        }
        if (town.couples == 0) {
            return NOT;
        }
        if (now.minutes() > LAST_MINUTE) {
            return FULL;
        }
        past.remember(now);
        for (int i = 0; i < n; i++) {
            int c = draw(town.couples);
            int more = draw(10);
            if (!now.isReconciled(c)) {
                now.embitter(c, more);
            }
            now.spendMinutes(1);
        }
        return now.minutes();
    }

    public int undo() {
        if (past.count == 0) {
            return NOT;
        }
        past.takeBack(now);
        return past.count;
    }

    // ---- tried

    public int could(int c, int b, int t, int what) {
        if (!town.hasCouple(c) || !town.hasBridge(b) || !town.hasTheme(t)) {
            return UNKNOWN;
        }
        if (what != 0 && what != 1) {
            return OUTSIDE;
        }
        if (now.isReconciled(c)) {
            return NONE;
        }
        attempt(c, b, t);
        if (!quarrel.opened) {
            return NONE;
        }
        return what == 0 ? quarrel.minutes : quarrel.cost;
    }

    public int bestTheme(int c, int b) {
        if (!town.hasCouple(c) || !town.hasBridge(b)) {
            return UNKNOWN;
        }
        return themeFor(c, b);
    }

    public int who(int m, int b) {
        if (!town.hasBridge(m) || (b != NONE && (b < 0 || b > m))) {
            return UNKNOWN;
        }
        for (int up = 0; up <= m; up++) {
            for (int c = 0; c < town.couples; c++) {
                pairing.ask(up, c, costFor(c, up));
            }
        }
        pairing.solve(m, town.couples);
        return b == NONE ? pairing.cost() : pairing.coupleOf(b);
    }

    public int order(int i) {
        convoy.gather(town, now);
        for (int b = 0; b < town.bridges; b++) {
            noteOpenings(b);
        }
        convoy.solve();
        if (i == NONE) {
            return convoy.length;
        }
        return i >= 0 && i < convoy.length ? at(convoy.row, i) : NONE;
    }

    public int toldHer(int b, int k, int i) {
        if (!town.hasBridge(b)) {
            return UNKNOWN;
        }
        if (k < 1 || k > 60) {
            return OUTSIDE;
        }
        int found = 0;
        int themes = 0;
        for (int c = 0; c < town.couples; c++) {
            for (int t = 0; t < town.themes; t++) {
                quarrel.run(at(town.grievances, c), town.forceOf(c, t), town.snow, at(town.needs, b));
                if (!quarrel.opened && quarrel.reconciled && quarrel.minutes == k) {
                    put(fitting, found, 10 * c + t);
                    found++;
                    themes |= 1 << t;
                }
            }
        }
        if (i == NONE) {
            return found;
        }
        if (i == ABOUT) {
            return themes;
        }
        return i >= 0 && i < found ? at(fitting, i) : NONE;
    }

    public int lasts(int c, int t) {
        if (!town.hasCouple(c) || !town.hasTheme(t)) {
            return UNKNOWN;
        }
        if (now.isReconciled(c)) {
            return NOT;
        }
        return minutesLeft(c, t);
    }

    public int wornOut() {
        int least = NONE;
        int leastMinutes = 0;
        for (int c = 0; c < town.couples; c++) {
            if (now.isReconciled(c)) {
                continue;
            }
            int longest = 0;
            for (int t = 0; t < town.themes; t++) {
                longest = Math.max(longest, minutesLeft(c, t));
            }
            if (least == NONE || longest < leastMinutes) {
                least = c;
                leastMinutes = longest;
            }
        }
        return least;
    }

    public int carried(int b) {
        if (b != NONE && !town.hasBridge(b)) {
            return UNKNOWN;
        }
        int c = now.coupleAt(0);
        if (c == NONE) {
            return NOT;
        }
        int comes = stampOf(now.grievanceOf(c), town.forceOf(c, now.themeOf(c)), town.snow);
        for (int up = 1; up < town.bridges; up++) {
            if (b == NONE && comes == 0) {
                return up;
            }
            if (b == up) {
                return comes;
            }
            if (now.coupleAt(up) != NONE) {
                comes = comes / 2;
            }
        }
        return b == NONE ? NONE : 0;
    }

    public int hire(int b, int what) {
        if (!town.hasBridge(b)) {
            return UNKNOWN;
        }
        if (what != 0 && what != 1) {
            return OUTSIDE;
        }
        int hired = NONE;
        int lowest = NONE;
        int next = NONE;
        for (int c = 0; c < town.couples; c++) {
            int asked = costFor(c, b);
            if (asked == NONE) {
                continue;
            }
            if (hired == NONE || asked < lowest) {
                next = lowest;
                lowest = asked;
                hired = c;
            } else if (next == NONE || asked < next) {
                next = asked;
            }
        }
        if (what == 0) {
            return hired;
        }
        return next == NONE ? lowest : next;
    }

    public int midstream(int c, int n, int q) {
        if (!town.hasCouple(c)) {
            return UNKNOWN;
        }
        if (n < 0 || n > 99 || q < 0 || q > 1000) {
            return OUTSIDE;
        }
        int risk = Math.max(0, q - now.grievanceOf(c));
        long odds = BILLION;
        for (int i = 0; i < n; i++) {
            odds = odds * (1000 - risk) / 1000;
        }
        return (int) odds;
    }

    public int fleet(int n) {
        if (n < 1 || n > 9) {
            return OUTSIDE;
        }
        int needed = n * town.needOfAll();
        int best = NONE;
        for (int set = 0; set < 1 << town.couples; set++) {
            boolean fewer = best == NONE || Integer.bitCount(set) < Integer.bitCount(best);
            boolean willing = (set & now.reconciledSet()) == 0;
            if (fewer && willing && now.grievanceOfSet(set) >= needed) {
                best = set;
            }
        }
        return best;
    }

    // ---- books, images

    public int write(int c, int g) {
        if (!town.hasCouple(c)) {
            return UNKNOWN;
        }
        if (g < 0 || g > MOST_GRIEVANCE) {
            return OUTSIDE;
        }
        if (book.entries >= MOST_ENTRIES) {
            return FULL;
        }
        book.enter(c, g);
        return book.entries;
    }

    public int tear() {
        int had = book.entries;
        book.clear();
        return had;
    }

    public int judge() {
        return book.firstWrong(now);
    }

    public int seed(int v) {
        if (v < 0) {
            return OUTSIDE;
        }
        int before = seed;
        seed = v;
        return before;
    }

    public int keep(int i) {
        if (i < 0 || i >= MOST_IMAGES) {
            return UNKNOWN;
        }
        images.store(i, now);
        put(imageSeeds, i, seed);
        imagesKept |= 1 << i;
        past.forget();
        return 1;
    }

    public int goBack(int i) {
        if (i < 0 || i >= MOST_IMAGES) {
            return UNKNOWN;
        }
        if ((imagesKept >> i & 1) == 0) {
            return NOT;
        }
        images.fetch(i, now);
        seed = at(imageSeeds, i);
        past.forget();
        return 1;
    }

    // ---- what several calls need

    private static int at(int[] row, int i) {
        return i >= 0 && i < row.length ? row[i] : 0;
    }

    private static void put(int[] row, int i, int value) {
        if (i >= 0 && i < row.length) {
            row[i] = value;
        }
    }

    private static int stampOf(int grievance, int force, int snow) {
        int whole = force + grievance / 10;
        return Math.min(grievance, snow == 0 ? whole : whole / 2);
    }

    private int draw(int n) {
        if (n <= 0) {
            return 0;
        }
        seed = (int) ((seed * 1103515245L + 12345L) & 0x7fffffffL);
        return seed / 65536 % n;
    }

    private boolean swing(int b) {
        int c = now.coupleAt(b);
        if (c == NONE) {
            return false;
        }
        attempt(c, b, now.themeOf(c));
        now.spendMinutes(quarrel.minutes);
        now.leave(c, quarrel.left);
        if (quarrel.reconciled) {
            now.reconcile(c);
        }
        return quarrel.opened;
    }

    private void attempt(int c, int b, int t) {
        quarrel.run(now.grievanceOf(c), town.forceOf(c, t), town.snow, at(town.needs, b));
    }

    private int themeFor(int c, int b) {
        int best = NONE;
        int minutes = 0;
        int cost = 0;
        if (now.isReconciled(c)) {
            return NONE;
        }
        for (int t = 0; t < town.themes; t++) {
            attempt(c, b, t);
            boolean quicker = quarrel.minutes < minutes || (quarrel.minutes == minutes && quarrel.cost < cost);
            if (quarrel.opened && (best == NONE || quicker)) {
                best = t;
                minutes = quarrel.minutes;
                cost = quarrel.cost;
            }
        }
        return best;
    }

    private int costFor(int c, int b) {
        int t = themeFor(c, b);
        if (t == NONE) {
            return NONE;
        }
        attempt(c, b, t);
        return quarrel.cost;
    }

    private int minutesLeft(int c, int t) {
        // No bridge needs more than all grievance, so this quarrel goes on to its own end.
        quarrel.run(now.grievanceOf(c), town.forceOf(c, t), town.snow, MOST_GRIEVANCE + 1);
        return quarrel.reconciled ? quarrel.minutes : NEVER_RECONCILED;
    }

    private void noteOpenings(int b) {
        int c = now.coupleAt(b);
        if (c == NONE) {
            return;
        }
        int left = now.grievanceOf(c);
        int force = town.forceOf(c, now.themeOf(c));
        for (int n = 0; n < MOST_BARGES; n++) {
            quarrel.run(left, force, town.snow, at(town.needs, b));
            if (!quarrel.opened || quarrel.reconciled) {
                return;
            }
            left = quarrel.left;
            convoy.noteOpening(b, quarrel.minutes);
        }
    }

    /** What the text tells: nothing in it changes till another text takes its place. */
    private static final class Town {
        int bridges = 0;
        int themes = 1;
        int couples = 0;
        int barges = 0;
        int snow = 0;
        final int[] needs = new int[MOST_BRIDGES];
        final int[] grievances = new int[MOST_COUPLES];
        final int[] forces = new int[MOST_COUPLES * MOST_THEMES];
        final int[] upTo = new int[MOST_BARGES];
        final int[] tides = new int[MOST_BARGES];

        void clear() {
            bridges = 0;
            themes = 1;
            couples = 0;
            barges = 0;
            snow = 0;
        }

        boolean hasBridge(int b) {
            return b >= 0 && b < bridges;
        }

        boolean hasTheme(int t) {
            return t >= 0 && t < themes;
        }

        boolean hasCouple(int c) {
            return c >= 0 && c < couples;
        }

        boolean hasBarge(int v) {
            return v >= 0 && v < barges;
        }

        int forceOf(int c, int t) {
            return at(forces, c * MOST_THEMES + t);
        }

        int needOfAll() {
            int all = 0;
            for (int b = 0; b < bridges; b++) {
                all += at(needs, b);
            }
            return all;
        }
    }

    /** Reads a text from left to right, so that the first fault it meets is the one to tell. */
    private static final class Reader {
        static final int CANNOT_STAND = 1;
        static final int BAD_NUMBER = 2;
        static final int TOO_OFTEN = 3;
        static final int END = -1;

        int fault = 0;
        int faultAt = NONE;
        private int[] text = new int[0];
        private int length = 0;
        private int place = 0;
        private boolean themesTold = false;
        private boolean snowTold = false;

        void read(int[] letters, int count, Town into) {
            text = letters;
            length = count;
            place = 0;
            fault = 0;
            faultAt = NONE;
            themesTold = false;
            snowTold = false;
            into.clear();
            for (int i = 0; i < MOST_LETTERS && fault == 0 && next() != END; i++) {
                readClause(into);
            }
        }

        private void readClause(Town into) {
            int word = next();
            boolean known = word == 'b' || word == 't' || word == 'c' || word == 'v' || word == 's';
            if (!known || (into.bridges == 0 && word != 'b')) {
                blame(CANNOT_STAND, place);
                return;
            }
            if (isTooOften(word, into)) {
                blame(TOO_OFTEN, place);
                return;
            }
            place++;
            switch (word) {
                case 'b':
                    readBridges(into);
                    break;
                case 't':
                    into.themes = number(1, MOST_THEMES);
                    themesTold = true;
                    break;
                case 'c':
                    readCouple(into);
                    break;
                case 'v':
                    readBarge(into);
                    break;
                default:
                    into.snow = number(0, 1);
                    snowTold = true;
                    break;
            }
            expect(';');
        }

        private boolean isTooOften(int word, Town into) {
            switch (word) {
                case 'b': return into.bridges > 0;
                case 't': return themesTold || into.couples > 0;
                case 'c': return into.couples >= MOST_COUPLES;
                case 'v': return into.barges >= MOST_BARGES;
                default: return snowTold;
            }
        }

        private void readBridges(Town into) {
            put(into.needs, 0, number(1, MOST_STAMPS));
            into.bridges = 1;
            for (int b = 1; b < MOST_BRIDGES && fault == 0 && next() == ','; b++) {
                place++;
                put(into.needs, b, number(1, MOST_STAMPS));
                into.bridges = b + 1;
            }
        }

        private void readCouple(Town into) {
            int c = into.couples;
            put(into.grievances, c, number(0, MOST_GRIEVANCE));
            for (int t = 0; t < into.themes; t++) {
                if (t > 0) {
                    expect(',');
                }
                put(into.forces, c * MOST_THEMES + t, number(0, MOST_FORCE));
            }
            into.couples = c + 1;
        }

        private void readBarge(Town into) {
            int v = into.barges;
            put(into.upTo, v, number(0, into.bridges - 1));
            put(into.tides, v, number(1, LATEST_TIDE));
            into.barges = v + 1;
        }

        /** Goes over blanks to the next letter, which stays to be read. */
        private int next() {
            for (int i = 0; i < MOST_LETTERS && letter() == ' '; i++) {
                place++;
            }
            return letter();
        }

        private int letter() {
            return place >= 0 && place < length && place < text.length ? text[place] : END;
        }

        private boolean isFigure(int letter) {
            return letter >= '0' && letter <= '9';
        }

        private void expect(int sign) {
            if (fault != 0) {
                return;
            }
            if (next() != sign) {
                blame(CANNOT_STAND, place);
                return;
            }
            place++;
        }

        private int number(int least, int most) {
            if (fault != 0) {
                return least;
            }
            if (!isFigure(next())) {
                blame(CANNOT_STAND, place);
                return least;
            }
            int first = place;
            int value = 0;
            for (int i = 0; i < MOST_LETTERS && isFigure(letter()); i++) {
                // Figures behind the third only make it a fault: they need not be counted up.
                value = i < 3 ? value * 10 + letter() - '0' : value;
                place++;
            }
            if (place - first > 3 || value < least || value > most) {
                blame(BAD_NUMBER, first);
                return least;
            }
            return value;
        }

        private void blame(int kind, int where) {
            fault = kind;
            faultAt = where;
        }
    }

    /** All that the document's second section tells, in one row, so that it is kept and brought back at one stroke. */
    private static final class State {
        static final int MINUTES = 0;
        static final int RECONCILED = 1;
        static final int GRIEVANCES = 2;
        static final int PLACES = GRIEVANCES + MOST_COUPLES;
        static final int THEMES = PLACES + MOST_COUPLES;
        static final int FATES = THEMES + MOST_COUPLES;
        static final int BERTHS = FATES + MOST_BARGES;
        static final int PASSED = BERTHS + MOST_BARGES;
        static final int SIZE = PASSED + MOST_BARGES;

        final int[] cells = new int[SIZE];

        void begin(Town town) {
            Arrays.fill(cells, 0);
            for (int c = 0; c < MOST_COUPLES; c++) {
                put(cells, GRIEVANCES + c, c < town.couples ? at(town.grievances, c) : 0);
                put(cells, PLACES + c, NONE);
            }
            for (int v = 0; v < MOST_BARGES; v++) {
                put(cells, BERTHS + v, NONE);
                put(cells, PASSED + v, NONE);
            }
        }

        int minutes() {
            return at(cells, MINUTES);
        }

        void spendMinutes(int more) {
            put(cells, MINUTES, minutes() + more);
        }

        int reconciledSet() {
            return at(cells, RECONCILED);
        }

        boolean isReconciled(int c) {
            return (reconciledSet() >> c & 1) != 0;
        }

        void reconcile(int c) {
            put(cells, RECONCILED, reconciledSet() | 1 << c);
            place(c, NONE);
        }

        int grievanceOf(int c) {
            return at(cells, GRIEVANCES + c);
        }

        int grievanceOfSet(int set) {
            int sum = 0;
            for (int c = 0; c < MOST_COUPLES; c++) {
                sum += (set >> c & 1) * grievanceOf(c);
            }
            return sum;
        }

        int grievanceOfAll() {
            return grievanceOfSet((1 << MOST_COUPLES) - 1);
        }

        void leave(int c, int grievance) {
            put(cells, GRIEVANCES + c, grievance);
        }

        void embitter(int c, int more) {
            leave(c, Math.min(MOST_GRIEVANCE, grievanceOf(c) + more));
        }

        int bridgeOf(int c) {
            return at(cells, PLACES + c);
        }

        int coupleAt(int b) {
            for (int c = 0; c < MOST_COUPLES; c++) {
                if (bridgeOf(c) == b) {
                    return c;
                }
            }
            return NONE;
        }

        void place(int c, int b) {
            put(cells, PLACES + c, b);
        }

        int themeOf(int c) {
            return at(cells, THEMES + c);
        }

        void turnTo(int c, int t) {
            put(cells, THEMES + c, t);
        }

        int fateOf(int v) {
            return at(cells, FATES + v);
        }

        int bargesOfFate(int fate) {
            int set = 0;
            for (int v = 0; v < MOST_BARGES; v++) {
                set |= fateOf(v) == fate ? 1 << v : 0;
            }
            return set;
        }

        int lyingAt(int v) {
            return at(cells, BERTHS + v);
        }

        void lay(int v, int b) {
            put(cells, FATES + v, LIES);
            put(cells, BERTHS + v, b);
        }

        int passedAt(int v) {
            return at(cells, PASSED + v);
        }

        void letThrough(int v, int fate) {
            put(cells, FATES + v, fate);
            put(cells, PASSED + v, minutes());
        }
    }

    /** Room for copies of a state, made once. */
    private static final class Shelf {
        final int slots;
        private final int[] cells;

        Shelf(int count) {
            slots = Math.max(0, count);
            cells = new int[slots * State.SIZE];
        }

        void store(int slot, State from) {
            if (slot >= 0 && slot < slots) {
                System.arraycopy(from.cells, 0, cells, slot * State.SIZE, State.SIZE);
            }
        }

        void fetch(int slot, State to) {
            if (slot >= 0 && slot < slots) {
                System.arraycopy(cells, slot * State.SIZE, to.cells, 0, State.SIZE);
            }
        }
    }

    /** What can be undone: a ring, so that the oldest gives way to the latest. */
    private static final class History {
        private final Shelf shelf = new Shelf(MOST_UNDONE);
        private int first = 0;
        int count = 0;

        void remember(State state) {
            if (count == MOST_UNDONE) {
                first = (first + 1) % MOST_UNDONE;
                count--;
            }
            shelf.store((first + count) % MOST_UNDONE, state);
            count++;
        }

        void takeBack(State state) {
            if (count > 0) {
                count--;
                shelf.fetch((first + count) % MOST_UNDONE, state);
            }
        }

        void forget() {
            count = 0;
        }
    }

    /** One quarrel from its first minute to its end; what came of it stands till the next. */
    private static final class Quarrel {
        int minutes = 0;
        int cost = 0;
        int left = 0;
        boolean opened = false;
        boolean reconciled = false;

        void run(int grievance, int force, int snow, int need) {
            minutes = 0;
            left = grievance;
            // Each minute takes at least 1 of the grievance, so there are never more minutes than that.
            for (int i = 0; i < grievance && grievance - left < need; i++) {
                int stamp = stampOf(left, force, snow);
                if (stamp <= 0) {
                    break;
                }
                left -= stamp;
                minutes++;
            }
            cost = grievance - left;
            opened = cost >= need;
            reconciled = cost > 0 && left == 0;
        }
    }

    /** Entries that tell grievances. */
    private static final class Book {
        int entries = 0;
        private final int[] couples = new int[MOST_ENTRIES];
        private final int[] grievances = new int[MOST_ENTRIES];

        void enter(int c, int g) {
            put(couples, entries, c);
            put(grievances, entries, g);
            entries++;
        }

        void clear() {
            entries = 0;
        }

        int firstWrong(State now) {
            for (int e = 0; e < entries; e++) {
                if (now.grievanceOf(at(couples, e)) != at(grievances, e)) {
                    return e;
                }
            }
            return NONE;
        }
    }

    /** Which couples swing which bridges: what is left to pay depends only on who has been taken so far. */
    private static final class Pairing {
        private final int[] asked = new int[MOST_BRIDGES * MOST_COUPLES];
        private final int[] least = new int[1 << MOST_COUPLES];
        private final int[] choice = new int[1 << MOST_COUPLES];

        void ask(int b, int c, int cost) {
            put(asked, b * MOST_COUPLES + c, cost);
        }

        void solve(int lastBridge, int couples) {
            for (int taken = (1 << couples) - 1; taken >= 0; taken--) {
                int b = Integer.bitCount(taken);
                put(choice, taken, NONE);
                put(least, taken, b > lastBridge ? 0 : NONE);
                for (int c = 0; b <= lastBridge && c < couples; c++) {
                    weigh(taken, b, c);
                }
            }
        }

        private void weigh(int taken, int b, int c) {
            int cost = at(asked, b * MOST_COUPLES + c);
            int rest = at(least, taken | 1 << c);
            if ((taken >> c & 1) != 0 || cost == NONE || rest == NONE) {
                return;
            }
            int best = at(least, taken);
            if (best == NONE || cost + rest < best) {
                put(least, taken, cost + rest);
                put(choice, taken, c);
            }
        }

        int cost() {
            return at(least, 0);
        }

        int coupleOf(int bridge) {
            int taken = 0;
            int c = at(choice, 0);
            for (int b = 0; b < bridge && c != NONE; b++) {
                taken |= 1 << c;
                c = at(choice, taken);
            }
            return c;
        }
    }

    /**
     * In what order barges go: a bridge opens for the n-th barge alike whichever barge that is, so the minute behind
     * a row of barges depends only on which barges it has, not on their order.
     */
    private static final class Convoy {
        private static final int PLACES = MOST_BARGES + 1;

        int length = 0;
        final int[] row = new int[MOST_BARGES];
        private final int[] openings = new int[MOST_BRIDGES];
        private final int[] spent = new int[MOST_BRIDGES * PLACES];
        private final int[] behind = new int[1 << MOST_BARGES];
        private final int[] most = new int[1 << MOST_BARGES];
        private final int[] choice = new int[1 << MOST_BARGES];
        private int waiting = 0;
        private int start = 0;
        private Town town = null;

        void gather(Town where, State now) {
            town = where;
            start = now.minutes();
            waiting = now.bargesOfFate(WAITS) & (1 << where.barges) - 1;
            Arrays.fill(openings, 0);
            Arrays.fill(spent, 0);
        }

        void noteOpening(int b, int minutes) {
            int n = at(openings, b);
            put(spent, b * PLACES + n + 1, at(spent, b * PLACES + n) + minutes);
            put(openings, b, n + 1);
        }

        void solve() {
            for (int gone = (1 << MOST_BARGES) - 1; gone >= 0; gone--) {
                put(behind, gone, minuteBehind(gone));
                put(most, gone, 0);
                put(choice, gone, NONE);
                for (int v = 0; v < MOST_BARGES; v++) {
                    weigh(gone, v);
                }
            }
            layOutRow();
        }

        private int minuteBehind(int gone) {
            if (town == null || (gone & ~waiting) != 0) {
                return NONE;
            }
            int minute = start;
            for (int b = 0; b < town.bridges; b++) {
                int through = 0;
                for (int v = 0; v < MOST_BARGES; v++) {
                    through += (gone >> v & 1) != 0 && at(town.upTo, v) >= b ? 1 : 0;
                }
                if (through > at(openings, b)) {
                    return NONE;
                }
                minute += at(spent, b * PLACES + through);
            }
            return minute;
        }

        private void weigh(int gone, int v) {
            int with = gone | 1 << v;
            int minute = at(behind, with);
            if (town == null || with == gone || minute == NONE) {
                return;
            }
            int inTime = at(most, with) + (minute <= at(town.tides, v) ? 1 : 0);
            if (inTime > at(most, gone)) {
                put(most, gone, inTime);
                put(choice, gone, v);
            }
        }

        private void layOutRow() {
            int gone = 0;
            length = 0;
            for (int i = 0; i < MOST_BARGES && at(choice, gone) != NONE; i++) {
                int v = at(choice, gone);
                put(row, length, v);
                length++;
                gone |= 1 << v;
            }
        }
    }
}
