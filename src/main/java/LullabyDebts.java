/**
 * Lullabies that are owed along a row of houses: who owes how many, who sleeps, who could sing to
 * whom, and what can be taken back.
 */
public final class LullabyDebts {
    public static final int NONE = -1, UNKNOWN = -1000000001, OUTSIDE = -1000000002, NOT = -1000000003, FULL = -1000000004;

    private static final int BILLION = 1000000000;
    private static final int MOST_LETTERS = 240;
    private static final int MOST_FIGURES = 3;
    private static final int MOST_HOUSES = 20;
    private static final int MOST_SONGS = 30;
    private static final int MOST_SINGERS = 6;
    private static final int MOST_CHILDREN = 6;
    private static final int MOST_NOTCHES = 198;
    private static final int MOST_SUNG_TO = 99;
    private static final int MOST_LATE = 999;
    private static final int MOST_YEARS = 99;
    private static final int DUE_AGE = 50;
    private static final int EVENINGS_A_YEAR = 4;
    private static final int LAST_EVENING = 9000;
    private static final int MOST_TIMES = 20;
    private static final int MOST_DEEDS = 30;
    private static final int MOST_TELLINGS = 6;
    private static final int MOST_ENTRIES = 20;
    private static final int MOST_IMAGES = 2;
    private static final int WIDOWER = 2;
    private static final long SEEDS = 2147483648L;

    private final Reader reader = new Reader();
    private final Mountain mountain = new Mountain();
    private final Planner planner = new Planner();
    private final Rounder rounder = new Rounder();
    private final Past past = new Past();
    private final Tellings tellings = new Tellings();
    private final Book book = new Book();
    private final Image[] images = new Image[MOST_IMAGES];

    // A text is read into the spare row, so that a fault in it leaves the row that stands untouched.
    private Row spare = new Row();
    private int seedNow;

    public LullabyDebts() {
        for (int i = 0; i < MOST_IMAGES; i++) {
            images[i] = new Image();
        }
    }

    // ---- the row

    public int feed(int letter) {
        if (letter < 0 || letter > 255) {
            return OUTSIDE;
        }
        if (reader.length >= MOST_LETTERS) {
            return FULL;
        }
        reader.add(letter);
        return reader.length;
    }

    public int row() {
        int kind = reader.readInto(spare);
        if (kind != Reader.NO_FAULT) {
            return -10 - kind;
        }
        Row read = spare;
        spare = mountain.facts;
        mountain.begin(read);
        past.forget();
        tellings.clear();
        book.clear();
        for (int i = 0; i < MOST_IMAGES; i++) {
            images[i].kept = false;
        }
        return read.singers;
    }

    public int fault() {
        return reader.faultAt;
    }

    public int told(int what) {
        switch (what) {
            case 0: return mountain.facts.houses;
            case 1: return mountain.facts.songs;
            case 2: return mountain.facts.singers;
            case 3: return mountain.facts.children;
            case 4: return reader.length;
            case 5: return mountain.now.evening;
            case 6: return mountain.now.awake;
            case 7: return Outlook.freeSingers(mountain);
            case 8: return mountain.now.inDefault;
            case 9: return mountain.now.late;
            case 10: return Outlook.allNotches(mountain);
            case 11: return Outlook.lastSinger(mountain);
            case 12: return Outlook.hardestChild(mountain);
            case 13: return Outlook.spreadOfChildren(mountain);
            case 14: return planner.mostAsleep(mountain);
            case 15: return Outlook.willDefault(mountain);
            case 16: return tellings.count;
            case 17: return book.count;
            case 18: return past.count;
            default: return OUTSIDE;
        }
    }

    public int singer(int s, int what) {
        if (!mountain.hasSinger(s)) {
            return UNKNOWN;
        }
        switch (what) {
            case 0: return mountain.facts.voice[s];
            case 1: return mountain.now.age[s];
            case 2: return mountain.now.debt[s];
            case 3: return mountain.now.house[s];
            case 4: return mountain.now.songs[s];
            case 5: return mountain.facts.home[s];
            case 6: return Outlook.eveningsTillFree(mountain, s);
            default: return OUTSIDE;
        }
    }

    public int child(int c, int what) {
        if (!mountain.hasChild(c)) {
            return UNKNOWN;
        }
        switch (what) {
            case 0: return mountain.facts.kind[c];
            case 1: return mountain.facts.patience[c];
            case 2: return mountain.now.bed[c];
            case 3: return mountain.isAwake(c) ? 1 : 0;
            case 4: return mountain.now.heard[c];
            case 5: return mountain.now.sungTo[c];
            case 6: return mountain.needsOf(c);
            default: return OUTSIDE;
        }
    }

    // ---- deeds

    public int go(int s, int house) {
        if (!mountain.hasSinger(s)) {
            return UNKNOWN;
        }
        if (house < 0 || house >= mountain.facts.houses) {
            return OUTSIDE;
        }
        if (mountain.now.house[s] == house || !mountain.mayWalk(s, house)) {
            return NOT;
        }
        past.remember(mountain.now);
        mountain.walk(s, house);
        return mountain.now.songs[s];
    }

    public int sing(int s, int c) {
        if (!mountain.hasBoth(s, c)) {
            return UNKNOWN;
        }
        if (!mountain.mayLull(s, c)) {
            return NOT;
        }
        past.remember(mountain.now);
        return mountain.lull(s, c);
    }

    public int carry(int c, int way) {
        if (!mountain.hasChild(c)) {
            return UNKNOWN;
        }
        if (way != 1 && way != -1) {
            return OUTSIDE;
        }
        if (!mountain.mayPass(c, way)) {
            return NOT;
        }
        past.remember(mountain.now);
        mountain.pass(c, way);
        return mountain.now.bed[c];
    }

    public int evening(int n) {
        int refusal = refuseTimes(n);
        if (refusal != 0) {
            return refusal;
        }
        for (int i = 0; i < n; i++) {
            past.remember(mountain.now);
            mountain.endEvening();
        }
        return mountain.now.evening;
    }

    public int drift(int n) {
        int refusal = refuseTimes(n);
        if (refusal != 0) {
            return refusal;
        }
        for (int i = 0; i < n; i++) {
            past.remember(mountain.now);
            doByDraws();
        }
        return Outlook.allNotches(mountain);
    }

    public int undo(int n) {
        if (n < 1 || n > MOST_DEEDS) {
            return OUTSIDE;
        }
        if (n > past.count) {
            return NOT;
        }
        past.takeBack(n, mountain.now);
        return mountain.now.evening;
    }

    // ---- tried

    public int steps(int s, int c) {
        return mountain.hasBoth(s, c) ? mountain.stepsTo(s, mountain.now.bed[c]) : UNKNOWN;
    }

    public int can(int s, int c) {
        if (!mountain.hasBoth(s, c)) {
            return UNKNOWN;
        }
        return mountain.couldPutDown(s, c) ? 1 : 0;
    }

    public int pays(int s, int c) {
        return mountain.hasBoth(s, c) ? mountain.wouldPay(s, c) : UNKNOWN;
    }

    public int plan(int s) {
        if (s == NONE) {
            return planner.mostPaid(mountain);
        }
        return mountain.hasSinger(s) ? planner.childOf(mountain, s) : UNKNOWN;
    }

    public int round(int s, int what) {
        if (!mountain.hasSinger(s)) {
            return UNKNOWN;
        }
        if (what != 0 && what != 1) {
            return OUTSIDE;
        }
        rounder.search(mountain, s);
        return what == 0 ? rounder.mostChildren : rounder.leastFigures;
    }

    public int colic(int n, int q) {
        if (n < 0 || n > 60 || q < 0 || q > 100) {
            return OUTSIDE;
        }
        long odds = BILLION;
        for (int i = 0; i < n; i++) {
            odds = odds * q / 100;
        }
        return (int) odds;
    }

    // ---- what is owed

    public int owed(int v, boolean is) {
        if (v < 0 || v > MOST_NOTCHES) {
            return OUTSIDE;
        }
        if (tellings.count >= MOST_TELLINGS) {
            return FULL;
        }
        tellings.add(v, is);
        return tellings.count;
    }

    public int couldBe() {
        return tellings.fitting(mountain);
    }

    public int ask() {
        return tellings.bestQuestion(mountain);
    }

    public int write(int s, int notches) {
        if (!mountain.hasSinger(s)) {
            return UNKNOWN;
        }
        if (notches < 0 || notches > MOST_NOTCHES) {
            return OUTSIDE;
        }
        if (book.count >= MOST_ENTRIES) {
            return FULL;
        }
        book.add(s, notches);
        return book.count;
    }

    public int judge() {
        return book.firstWrong(mountain.now);
    }

    public int tear() {
        int both = tellings.count + book.count;
        tellings.clear();
        book.clear();
        return both;
    }

    // ---- images

    public int seed(int v) {
        if (v < 0) {
            return OUTSIDE;
        }
        int before = seedNow;
        seedNow = v;
        return before;
    }

    public int keep(int i) {
        if (i < 0 || i >= MOST_IMAGES) {
            return UNKNOWN;
        }
        Image image = images[i];
        image.night.copyFrom(mountain.now);
        image.seed = seedNow;
        image.kept = true;
        past.forget();
        return 1;
    }

    public int goBack(int i) {
        if (i < 0 || i >= MOST_IMAGES) {
            return UNKNOWN;
        }
        Image image = images[i];
        if (!image.kept) {
            return NOT;
        }
        mountain.now.copyFrom(image.night);
        seedNow = image.seed;
        past.forget();
        return 1;
    }

    /** What evening() and drift() refuse alike; 0 if nothing. */
    private int refuseTimes(int n) {
        if (n < 1 || n > MOST_TIMES) {
            return OUTSIDE;
        }
        if (mountain.facts.houses == 0) {
            return NOT;
        }
        return mountain.now.evening > LAST_EVENING ? FULL : 0;
    }

    private void doByDraws() {
        if (mountain.facts.singers == 0 || mountain.facts.children == 0) {
            return;
        }
        int deed = drawOf(6);
        int s = drawOf(mountain.facts.singers);
        int c = drawOf(mountain.facts.children);
        if (deed == 5) {
            mountain.endEvening();
        } else if (deed == 4) {
            if (mountain.mayPass(c, 1)) {
                mountain.pass(c, 1);
            }
        } else {
            mountain.visit(s, c);
        }
    }

    private int drawOf(int n) {
        seedNow = (int) ((seedNow * 1103515245L + 12345L) % SEEDS);
        return n > 0 ? seedNow / 65536 % n : 0;
    }

    /** What a text tells, and no deed changes. */
    private static final class Row {
        final int[] voice = new int[MOST_SINGERS];
        final int[] age = new int[MOST_SINGERS];
        final int[] owes = new int[MOST_SINGERS];
        final int[] home = new int[MOST_SINGERS];
        final int[] kind = new int[MOST_CHILDREN];
        final int[] patience = new int[MOST_CHILDREN];
        final int[] bed = new int[MOST_CHILDREN];
        int houses;
        int songs;
        int singers;
        int children;

        void clear() {
            houses = 0;
            songs = 0;
            singers = 0;
            children = 0;
        }
    }

    /** The text, and how it is read, with its first fault. */
    private static final class Reader {
        static final int NO_FAULT = 0;
        static final int MISPLACED = 1;
        static final int BAD_NUMBER = 2;
        static final int TOO_MANY = 3;

        private final char[] letters = new char[MOST_LETTERS];
        int length;
        int faultAt = NONE;
        private int faultKind;
        private int at;

        void add(int letter) {
            if (length < MOST_LETTERS) {
                letters[length] = (char) letter;
                length++;
            }
        }

        /** Empties the text into the row; answers the fault's number. */
        int readInto(Row row) {
            row.clear();
            at = 0;
            faultKind = NO_FAULT;
            faultAt = NONE;
            skipBlanks();
            for (int i = 0; i < MOST_LETTERS && at < length && faultKind == NO_FAULT; i++) {
                readClause(row);
                skipBlanks();
            }
            length = 0;
            return faultKind;
        }

        private void readClause(Row row) {
            char word = letters[at];
            boolean first = row.houses == 0;
            if (word == 'r') {
                readHouses(row, first);
            } else if (word == 's' && !first) {
                readSinger(row);
            } else if (word == 'c' && !first) {
                readChild(row);
            } else {
                blame(MISPLACED, at);
            }
        }

        private void readHouses(Row row, boolean first) {
            if (!first) {
                blame(TOO_MANY, at);
                return;
            }
            at++;
            int houses = readNumber(1, MOST_HOUSES);
            int songs = readNumber(1, MOST_SONGS);
            readEnd();
            if (faultKind == NO_FAULT) {
                row.houses = houses;
                row.songs = songs;
            }
        }

        private void readSinger(Row row) {
            int s = row.singers;
            if (s >= MOST_SINGERS) {
                blame(TOO_MANY, at);
                return;
            }
            at++;
            row.voice[s] = readNumber(0, 3);
            row.age[s] = readNumber(1, 60);
            row.owes[s] = readNumber(0, 99);
            row.home[s] = readNumber(0, row.houses - 1);
            readEnd();
            row.singers++;
        }

        private void readChild(Row row) {
            int c = row.children;
            if (c >= MOST_CHILDREN) {
                blame(TOO_MANY, at);
                return;
            }
            at++;
            row.kind[c] = readNumber(0, 3);
            row.patience[c] = readNumber(1, 20);
            row.bed[c] = readNumber(0, row.houses - 1);
            readEnd();
            row.children++;
        }

        /** The next number; 0 with a fault, as a row with a fault is never used. */
        private int readNumber(int least, int most) {
            skipBlanks();
            int start = at;
            int value = 0;
            while (at < length && isFigure(letters[at])) {
                // A number that is too long is a fault anyway: its value must only not wrap around.
                if (at - start < MOST_FIGURES) {
                    value = value * 10 + (letters[at] - '0');
                }
                at++;
            }
            if (at == start) {
                blame(MISPLACED, start);
                return 0;
            }
            if (at - start > MOST_FIGURES || value < least || value > most) {
                blame(BAD_NUMBER, start);
                return 0;
            }
            return value;
        }

        private void readEnd() {
            skipBlanks();
            if (at < length && letters[at] == ';') {
                at++;
            } else {
                blame(MISPLACED, at);
            }
        }

        private void skipBlanks() {
            while (at < length && letters[at] == ' ') {
                at++;
            }
        }

        private static boolean isFigure(char letter) {
            return letter >= '0' && letter <= '9';
        }

        // Reading goes from left to right, so the fault that is found first is the one that counts.
        private void blame(int kind, int position) {
            if (faultKind == NO_FAULT) {
                faultKind = kind;
                faultAt = position;
            }
        }
    }

    /** All that deeds change, and so all that is undone and that images keep. */
    private static final class Night {
        final int[] age = new int[MOST_SINGERS];
        final int[] debt = new int[MOST_SINGERS];
        final int[] house = new int[MOST_SINGERS];
        final int[] songs = new int[MOST_SINGERS];
        final int[] bed = new int[MOST_CHILDREN];
        final int[] heard = new int[MOST_CHILDREN];
        final int[] sungTo = new int[MOST_CHILDREN];
        // A set. A bad child that was put down needs more at once, so what it heard can't tell who sleeps.
        int awake;
        int evening;
        int inDefault;
        int late;

        void copyFrom(Night other) {
            System.arraycopy(other.age, 0, age, 0, MOST_SINGERS);
            System.arraycopy(other.debt, 0, debt, 0, MOST_SINGERS);
            System.arraycopy(other.house, 0, house, 0, MOST_SINGERS);
            System.arraycopy(other.songs, 0, songs, 0, MOST_SINGERS);
            System.arraycopy(other.bed, 0, bed, 0, MOST_CHILDREN);
            System.arraycopy(other.heard, 0, heard, 0, MOST_CHILDREN);
            System.arraycopy(other.sungTo, 0, sungTo, 0, MOST_CHILDREN);
            awake = other.awake;
            evening = other.evening;
            inDefault = other.inDefault;
            late = other.late;
        }
    }

    /** A night that is kept, with the seed. */
    private static final class Image {
        final Night night = new Night();
        int seed;
        boolean kept;
    }

    /** The row with the night as it is now: what may be done, and the deeds. */
    private static final class Mountain {
        final Night now = new Night();
        Row facts = new Row();

        void begin(Row row) {
            facts = row;
            now.evening = 0;
            now.inDefault = 0;
            now.late = 0;
            for (int s = 0; s < row.singers; s++) {
                now.age[s] = row.age[s];
                now.debt[s] = 2 * row.owes[s];
            }
            for (int c = 0; c < row.children; c++) {
                now.bed[c] = row.bed[c];
                now.sungTo[c] = 0;
            }
            beginEvening();
        }

        boolean hasSinger(int s) {
            return s >= 0 && s < facts.singers;
        }

        boolean hasChild(int c) {
            return c >= 0 && c < facts.children;
        }

        boolean hasBoth(int s, int c) {
            return hasSinger(s) && hasChild(c);
        }

        boolean isAwake(int c) {
            return (now.awake >> c & 1) != 0;
        }

        /** Songs till the child sleeps. */
        int needsOf(int c) {
            if (!isAwake(c)) {
                return 0;
            }
            int patience = facts.patience[c];
            int songs;
            switch (facts.kind[c]) {
                case 1: songs = 2 * patience; break;
                case 2: songs = patience / 2 + 1; break;
                case 3: songs = patience + now.sungTo[c]; break;
                default: songs = patience; break;
            }
            return Math.max(0, songs - now.heard[c]);
        }

        /** Notches that one song pays, whoever hears it. */
        int songPays(int s, int evening) {
            switch (facts.voice[s]) {
                case 1: return 1;
                case 3: return evening % 2 == 0 ? 2 : 1;
                default: return 2;
            }
        }

        int songPaysTo(int s, int c) {
            if (facts.voice[s] == WIDOWER && now.bed[c] == facts.home[s]) {
                return 1;
            }
            return songPays(s, now.evening);
        }

        int stepsTo(int s, int house) {
            return Math.abs(now.house[s] - house);
        }

        boolean couldPutDown(int s, int c) {
            return isAwake(c) && now.debt[s] > 0
                    && stepsTo(s, now.bed[c]) + needsOf(c) <= now.songs[s];
        }

        int wouldPay(int s, int c) {
            if (!couldPutDown(s, c)) {
                return 0;
            }
            return Math.min(now.debt[s], needsOf(c) * songPaysTo(s, c));
        }

        boolean mayWalk(int s, int house) {
            return stepsTo(s, house) <= now.songs[s];
        }

        void walk(int s, int house) {
            now.songs[s] -= stepsTo(s, house);
            now.house[s] = house;
        }

        boolean mayLull(int s, int c) {
            return isAwake(c) && now.bed[c] == now.house[s] && now.debt[s] > 0 && now.songs[s] > 0;
        }

        /** Sings till the child sleeps or no song is left, even if all is paid ahead of that. */
        int lull(int s, int c) {
            int needs = needsOf(c);
            int sung = Math.min(needs, now.songs[s]);
            now.debt[s] = Math.max(0, now.debt[s] - sung * songPaysTo(s, c));
            now.songs[s] -= sung;
            now.heard[c] += sung;
            if (sung == needs) {
                now.awake &= ~(1 << c);
                now.sungTo[c] = Math.min(MOST_SUNG_TO, now.sungTo[c] + 1);
            } else {
                now.late = Math.min(MOST_LATE, now.late + 1);
            }
            return sung;
        }

        boolean mayPass(int c, int way) {
            int house = now.bed[c] + way;
            return isAwake(c) && house >= 0 && house < facts.houses;
        }

        void pass(int c, int way) {
            now.bed[c] += way;
            now.heard[c] = 0;
        }

        /** Goes to the child and sings to it, each as far as that can be. */
        void visit(int s, int c) {
            if (mayWalk(s, now.bed[c])) {
                walk(s, now.bed[c]);
            }
            if (mayLull(s, c)) {
                lull(s, c);
            }
        }

        void endEvening() {
            now.evening++;
            beginEvening();
            if (now.evening % EVENINGS_A_YEAR == 0) {
                addYear();
            }
        }

        private void beginEvening() {
            for (int s = 0; s < facts.singers; s++) {
                now.house[s] = facts.home[s];
                now.songs[s] = facts.songs;
            }
            now.awake = (1 << facts.children) - 1;
            for (int c = 0; c < facts.children; c++) {
                now.heard[c] = 0;
            }
        }

        private void addYear() {
            for (int s = 0; s < facts.singers; s++) {
                now.age[s] = Math.min(MOST_YEARS, now.age[s] + 1);
                if (now.age[s] == DUE_AGE && now.debt[s] > 0) {
                    now.inDefault |= 1 << s;
                }
            }
        }
    }

    /** What can be told of the night as a whole, and what is to come of it. */
    private static final class Outlook {
        static int freeSingers(Mountain mountain) {
            int set = 0;
            for (int s = 0; s < mountain.facts.singers; s++) {
                if (mountain.now.debt[s] == 0) {
                    set |= 1 << s;
                }
            }
            return set;
        }

        static int allNotches(Mountain mountain) {
            int sum = 0;
            for (int s = 0; s < mountain.facts.singers; s++) {
                sum += mountain.now.debt[s];
            }
            return sum;
        }

        static int lastSinger(Mountain mountain) {
            int last = NONE;
            int most = 0;
            for (int s = 0; s < mountain.facts.singers; s++) {
                if (mountain.now.debt[s] > most) {
                    most = mountain.now.debt[s];
                    last = s;
                }
            }
            return last;
        }

        static int hardestChild(Mountain mountain) {
            int hardest = NONE;
            int most = -1;
            for (int c = 0; c < mountain.facts.children; c++) {
                int needs = mountain.needsOf(c);
                if (needs > most) {
                    most = needs;
                    hardest = c;
                }
            }
            return hardest;
        }

        static int spreadOfChildren(Mountain mountain) {
            int low = MOST_HOUSES;
            int high = 0;
            for (int c = 0; c < mountain.facts.children; c++) {
                low = Math.min(low, mountain.now.bed[c]);
                high = Math.max(high, mountain.now.bed[c]);
            }
            return Math.max(0, high - low);
        }

        static int eveningsTillFree(Mountain mountain, int s) {
            int debt = mountain.now.debt[s];
            int evenings = 0;
            // A song pays a notch at least, so not even one song an evening takes longer.
            while (debt > 0 && evenings < MOST_NOTCHES) {
                debt -= mountain.facts.songs * mountain.songPays(s, mountain.now.evening + evenings);
                evenings++;
            }
            return evenings;
        }

        static int willDefault(Mountain mountain) {
            int set = 0;
            for (int s = 0; s < mountain.facts.singers; s++) {
                if (mountain.now.age[s] < DUE_AGE && eveningsTillFree(mountain, s) > eveningsTillDue(mountain, s)) {
                    set |= 1 << s;
                }
            }
            return set;
        }

        /** For a singer who is not yet of the age by which all is due. */
        private static int eveningsTillDue(Mountain mountain, int s) {
            int years = DUE_AGE - mountain.now.age[s];
            return EVENINGS_A_YEAR * years - mountain.now.evening % EVENINGS_A_YEAR;
        }
    }

    /** Singers to children, one each, so that most is reached. */
    private static final class Planner {
        private static final int SETS = 1 << MOST_CHILDREN;

        // 0 where a singer can't put a child down: whoever can pays something by it.
        private final int[] worth = new int[MOST_SINGERS * MOST_CHILDREN];
        // The most that this singer and those behind him reach, by the set of children taken ahead of him.
        private final int[] best = new int[(MOST_SINGERS + 1) * SETS];
        private int singers;
        private int children;

        int mostPaid(Mountain mountain) {
            weigh(mountain, false);
            solve();
            return best[0];
        }

        int mostAsleep(Mountain mountain) {
            weigh(mountain, true);
            solve();
            return best[0];
        }

        int childOf(Mountain mountain, int singer) {
            weigh(mountain, false);
            solve();
            int taken = 0;
            int chosen = NONE;
            for (int s = 0; s <= singer; s++) {
                chosen = firstBest(s, taken);
                if (chosen != NONE) {
                    taken |= 1 << chosen;
                }
            }
            return chosen;
        }

        private void weigh(Mountain mountain, boolean byHeads) {
            singers = mountain.facts.singers;
            children = mountain.facts.children;
            for (int s = 0; s < singers; s++) {
                for (int c = 0; c < children; c++) {
                    int paid = mountain.wouldPay(s, c);
                    worth[s * MOST_CHILDREN + c] = byHeads ? Math.min(1, paid) : paid;
                }
            }
        }

        private void solve() {
            int sets = 1 << children;
            for (int taken = 0; taken < sets; taken++) {
                best[singers * SETS + taken] = 0;
            }
            for (int s = singers - 1; s >= 0; s--) {
                for (int taken = 0; taken < sets; taken++) {
                    best[s * SETS + taken] = bestFrom(s, taken);
                }
            }
        }

        private int bestFrom(int s, int taken) {
            int most = best[(s + 1) * SETS + taken];
            for (int c = 0; c < children; c++) {
                if (isOpen(s, c, taken)) {
                    most = Math.max(most, reachedWith(s, c, taken));
                }
            }
            return most;
        }

        private int firstBest(int s, int taken) {
            for (int c = 0; c < children; c++) {
                if (isOpen(s, c, taken) && reachedWith(s, c, taken) == best[s * SETS + taken]) {
                    return c;
                }
            }
            return NONE;
        }

        private boolean isOpen(int s, int c, int taken) {
            return (taken >> c & 1) == 0 && worth[s * MOST_CHILDREN + c] > 0;
        }

        private int reachedWith(int s, int c, int taken) {
            return worth[s * MOST_CHILDREN + c] + best[(s + 1) * SETS + (taken | 1 << c)];
        }
    }

    /** The most children that one singer puts down on one way along the row. */
    private static final class Rounder {
        private final int[] bed = new int[MOST_CHILDREN];
        private final int[] needs = new int[MOST_CHILDREN];
        private final int[] paid = new int[MOST_CHILDREN];
        private int children;
        int mostChildren;
        int leastFigures;

        void search(Mountain mountain, int s) {
            Night now = mountain.now;
            children = mountain.facts.children;
            for (int c = 0; c < children; c++) {
                bed[c] = now.bed[c];
                needs[c] = mountain.needsOf(c);
                paid[c] = needs[c] * mountain.songPaysTo(s, c);
            }
            mostChildren = 0;
            leastFigures = 0;
            extend(0, 0, 0, now.house[s], now.songs[s], now.debt[s]);
        }

        // Ways of one length come in the order of their figures, so the first of them is the least.
        private void extend(int depth, int visited, int figures, int house, int songs, int debt) {
            if (depth > mostChildren) {
                mostChildren = depth;
                leastFigures = figures;
            }
            if (depth >= MOST_CHILDREN || debt <= 0) {
                return;
            }
            for (int c = 0; c < children; c++) {
                int left = songs - Math.abs(bed[c] - house) - needs[c];
                boolean isOpen = needs[c] > 0 && (visited >> c & 1) == 0;
                if (isOpen && left >= 0) {
                    extend(depth + 1, visited | 1 << c, figures * 10 + c + 1, bed[c], left, debt - paid[c]);
                }
            }
        }
    }

    /** The nights ahead of the latest deeds; the oldest makes room. */
    private static final class Past {
        private final Night[] nights = new Night[MOST_DEEDS];
        private int next;
        int count;

        Past() {
            for (int i = 0; i < MOST_DEEDS; i++) {
                nights[i] = new Night();
            }
        }

        void remember(Night now) {
            nights[next].copyFrom(now);
            next = (next + 1) % MOST_DEEDS;
            count = Math.min(MOST_DEEDS, count + 1);
        }

        void takeBack(int n, Night now) {
            next = Math.floorMod(next - n, MOST_DEEDS);
            count -= n;
            now.copyFrom(nights[next]);
        }

        void forget() {
            count = 0;
        }
    }

    /** What was told of the debt of an unknown singer. */
    private static final class Tellings {
        private final int[] bound = new int[MOST_TELLINGS];
        private final boolean[] orMore = new boolean[MOST_TELLINGS];
        int count;

        void add(int notches, boolean is) {
            if (count < MOST_TELLINGS) {
                bound[count] = notches;
                orMore[count] = is;
                count++;
            }
        }

        void clear() {
            count = 0;
        }

        int fitting(Mountain mountain) {
            int set = 0;
            for (int s = 0; s < mountain.facts.singers; s++) {
                if (allFit(mountain.now.debt[s])) {
                    set |= 1 << s;
                }
            }
            return set;
        }

        int bestQuestion(Mountain mountain) {
            int set = fitting(mountain);
            int all = Integer.bitCount(set);
            int best = NONE;
            int leastPart = all;
            for (int v = 1; v <= MOST_NOTCHES; v++) {
                int more = owingAtLeast(v, set, mountain.now);
                int part = Math.max(more, all - more);
                if (part < leastPart) {
                    leastPart = part;
                    best = v;
                }
            }
            return best;
        }

        private boolean allFit(int debt) {
            for (int i = 0; i < count; i++) {
                if ((debt >= bound[i]) != orMore[i]) {
                    return false;
                }
            }
            return true;
        }

        private static int owingAtLeast(int v, int set, Night now) {
            int owing = 0;
            for (int s = 0; s < MOST_SINGERS; s++) {
                if ((set >> s & 1) != 0 && now.debt[s] >= v) {
                    owing++;
                }
            }
            return owing;
        }
    }

    /** What is written of the debts of singers. */
    private static final class Book {
        private final int[] singers = new int[MOST_ENTRIES];
        private final int[] notches = new int[MOST_ENTRIES];
        int count;

        void add(int s, int owes) {
            if (count < MOST_ENTRIES) {
                singers[count] = s;
                notches[count] = owes;
                count++;
            }
        }

        void clear() {
            count = 0;
        }

        int firstWrong(Night now) {
            for (int i = 0; i < count; i++) {
                if (now.debt[singers[i]] != notches[i]) {
                    return i;
                }
            }
            return NONE;
        }
    }
}
