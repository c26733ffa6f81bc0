import java.math.BigInteger;
import java.util.ArrayList;
import java.util.List;

/**
 * The document once more, in the slowest and plainest way: song by song, step by step, and what is
 * tried is done on a copy. It shares no code with the program, so that they can be compared.
 */
final class SlowModel {
    static final class Singer {
        int voice, age, notches, house, songs, home;

        Singer copy() {
            Singer o = new Singer();
            o.voice = voice;
            o.age = age;
            o.notches = notches;
            o.house = house;
            o.songs = songs;
            o.home = home;
            return o;
        }
    }

    static final class Child {
        int kind, p, house, heard, sungTo;
        boolean asleep;

        Child copy() {
            Child o = new Child();
            o.kind = kind;
            o.p = p;
            o.house = house;
            o.heard = heard;
            o.sungTo = sungTo;
            o.asleep = asleep;
            return o;
        }

        int needs() {
            if (asleep) {
                return 0;
            }
            int[] byKind = {p, p + p, p / 2 + 1, p + sungTo};
            return Math.max(byKind[kind] - heard, 0);
        }
    }

    static final class World {
        int n, d, evenings, late;
        boolean[] inDefault = new boolean[6];
        List<Singer> singers = new ArrayList<>();
        List<Child> children = new ArrayList<>();

        World copy() {
            World o = new World();
            o.n = n;
            o.d = d;
            o.evenings = evenings;
            o.late = late;
            o.inDefault = inDefault.clone();
            for (Singer s : singers) {
                o.singers.add(s.copy());
            }
            for (Child c : children) {
                o.children.add(c.copy());
            }
            return o;
        }

        boolean walk(int s, int house) {
            Singer x = singers.get(s);
            if (Math.abs(x.house - house) > x.songs) {
                return false;
            }
            while (x.house != house) {
                x.house += x.house < house ? 1 : -1;
                x.songs--;
            }
            return true;
        }

        /** Songs sung; 0 if it can't be. */
        int sings(int s, int c) {
            Singer x = singers.get(s);
            Child y = children.get(c);
            if (x.house != y.house || y.asleep || x.notches < 1 || x.songs < 1) {
                return 0;
            }
            int sung = 0;
            while (y.needs() > 0 && x.songs > 0) {
                x.songs--;
                y.heard++;
                sung++;
                int pay = 2;
                if (x.voice == 1 || x.voice == 2 && y.house == x.home || x.voice == 3 && evenings % 2 == 1) {
                    pay = 1;
                }
                x.notches = Math.max(0, x.notches - pay);
            }
            if (y.needs() == 0) {
                y.asleep = true;
                y.sungTo = Math.min(99, y.sungTo + 1);
            } else {
                late = Math.min(999, late + 1);
            }
            return sung;
        }

        boolean carries(int c, int way) {
            Child y = children.get(c);
            if (y.asleep || y.house + way < 0 || y.house + way >= n) {
                return false;
            }
            y.house += way;
            y.heard = 0;
            return true;
        }

        void ends() {
            evenings++;
            for (Child y : children) {
                y.asleep = false;
                y.heard = 0;
            }
            for (int s = 0; s < singers.size(); s++) {
                Singer x = singers.get(s);
                x.house = x.home;
                x.songs = d;
                if (evenings % 4 == 0 && x.age < 99) {
                    x.age++;
                    if (x.age == 50 && x.notches > 0) {
                        inDefault[s] = true;
                    }
                }
            }
        }

        /** What singer s pays by putting child c down; -1 if he can't. */
        int putDown(int s, int c) {
            int owed = singers.get(s).notches;
            if (children.get(c).asleep || owed == 0 || !walk(s, children.get(c).house)) {
                return -1;
            }
            sings(s, c);
            return children.get(c).asleep ? owed - singers.get(s).notches : -1;
        }
    }

    private World w = new World();
    private final StringBuilder text = new StringBuilder();
    private int faultAt = -1;
    private long seed = 0;
    private final List<World> past = new ArrayList<>();
    private World[] images = new World[2];
    private final long[] imageSeeds = new long[2];
    private final List<int[]> owed = new ArrayList<>();
    private final List<int[]> book = new ArrayList<>();

    int feed(int letter) {
        if (letter < 0 || letter > 255) {
            return Due.OUTSIDE;
        }
        if (text.length() == 240) {
            return Due.FULL;
        }
        text.append((char) letter);
        return text.length();
    }

    int row() {
        String t = text.toString();
        text.setLength(0);
        World told = new World();
        int[] fault = read(t, told);
        faultAt = fault == null ? -1 : fault[1];
        if (fault != null) {
            return -10 - fault[0];
        }
        w = told;
        past.clear();
        images = new World[2];
        owed.clear();
        book.clear();
        return w.singers.size();
    }

    /** The least fault at each letter that has one is written down; the first letter's is the answer. */
    private static int[] read(String t, World told) {
        List<int[]> tokens = new ArrayList<>();
        for (int i = 0; i < t.length(); i++) {
            int from = i;
            while (i < t.length() && Character.digit(t.charAt(i), 10) >= 0 && t.charAt(i) < 128) {
                i++;
            }
            if (i > from) {
                int value = new BigInteger(t.substring(from, i)).min(BigInteger.valueOf(100000)).intValue();
                tokens.add(new int[] {from, i - from > 3 ? 100000 : value});
                i--;
            } else if (t.charAt(i) != ' ') {
                tokens.add(new int[] {from, -1 - t.charAt(i)});
            }
        }
        tokens.add(new int[] {t.length(), -1000});
        int i = 0;
        while (tokens.get(i)[1] != -1000) {
            int at = tokens.get(i)[0];
            int word = -1 - tokens.get(i)[1];
            if (word != 'r' && word != 's' && word != 'c' || told.n == 0 && word != 'r') {
                return new int[] {1, at};
            }
            int have = word == 'r' ? (told.n > 0 ? 6 : 0) : word == 's' ? told.singers.size() : told.children.size();
            if (have == 6) {
                return new int[] {3, at};
            }
            int h = told.n - 1;
            int[][] bounds = word == 'r' ? new int[][] {{1, 20}, {1, 30}}
                    : word == 's' ? new int[][] {{0, 3}, {1, 60}, {0, 99}, {0, h}} : new int[][] {{0, 3}, {1, 20}, {0, h}};
            int[] v = new int[bounds.length];
            for (int k = 0; k < bounds.length; k++) {
                i++;
                v[k] = tokens.get(i)[1];
                if (v[k] < 0) {
                    return new int[] {1, tokens.get(i)[0]};
                }
                if (v[k] < bounds[k][0] || v[k] > bounds[k][1]) {
                    return new int[] {2, tokens.get(i)[0]};
                }
            }
            i++;
            if (tokens.get(i)[1] != -1 - ';') {
                return new int[] {1, tokens.get(i)[0]};
            }
            i++;
            tell(told, word, v);
        }
        return null;
    }

    private static void tell(World told, int word, int[] v) {
        if (word == 'r') {
            told.n = v[0];
            told.d = v[1];
        } else if (word == 's') {
            Singer s = new Singer();
            s.voice = v[0];
            s.age = v[1];
            s.notches = v[2] + v[2];
            s.home = v[3];
            s.house = v[3];
            s.songs = told.d;
            told.singers.add(s);
        } else {
            Child c = new Child();
            c.kind = v[0];
            c.p = v[1];
            c.house = v[2];
            told.children.add(c);
        }
    }

    int fault() {
        return faultAt;
    }

    int told(int what) {
        int sum = 0, free = 0, inDefault = 0, awake = 0, last = -1, hardest = -1, spread = 0, will = 0;
        for (int s = 0; s < w.singers.size(); s++) {
            Singer x = w.singers.get(s);
            sum += x.notches;
            free += x.notches == 0 ? 1 << s : 0;
            inDefault += w.inDefault[s] ? 1 << s : 0;
            if (x.notches > 0 && (last < 0 || x.notches > w.singers.get(last).notches)) {
                last = s;
            }
            will += what == 15 && willDefault(s) ? 1 << s : 0;
        }
        for (int c = 0; c < w.children.size(); c++) {
            Child y = w.children.get(c);
            awake += y.asleep ? 0 : 1 << c;
            if (hardest < 0 || y.needs() > w.children.get(hardest).needs()) {
                hardest = c;
            }
            for (Child z : w.children) {
                spread = Math.max(spread, Math.abs(y.house - z.house));
            }
        }
        int[] all = {w.n, w.d, w.singers.size(), w.children.size(), text.length(), w.evenings, awake, free, inDefault,
            w.late, sum, last, hardest, spread, what == 14 ? bestWay(true)[6] : 0, will, owed.size(), book.size(), past.size()};
        return what < 0 || what >= all.length ? Due.OUTSIDE : all[what];
    }

    private boolean noSinger(int s) {
        return s < 0 || s >= w.singers.size();
    }

    private boolean noChild(int c) {
        return c < 0 || c >= w.children.size();
    }

    int singer(int s, int what) {
        if (noSinger(s)) {
            return Due.UNKNOWN;
        }
        Singer x = w.singers.get(s);
        int[] all = {x.voice, x.age, x.notches, x.house, x.songs, x.home, never(s)};
        return what < 0 || what >= all.length ? Due.OUTSIDE : all[what];
    }

    private int never(int s) {
        Singer x = w.singers.get(s);
        int owes = x.notches;
        int evenings = 0;
        while (owes > 0) {
            for (int i = 0; i < w.d; i++) {
                owes -= x.voice == 1 || x.voice == 3 && (w.evenings + evenings) % 2 == 1 ? 1 : 2;
            }
            evenings++;
        }
        return evenings;
    }

    private boolean willDefault(int s) {
        if (w.singers.get(s).age >= 50) {
            return false;
        }
        World later = w.copy();
        int end = 0;
        while (later.singers.get(s).age < 50) {
            later.ends();
            end++;
        }
        return never(s) > end;
    }

    int child(int c, int what) {
        if (noChild(c)) {
            return Due.UNKNOWN;
        }
        Child y = w.children.get(c);
        int[] all = {y.kind, y.p, y.house, y.asleep ? 0 : 1, y.heard, y.sungTo, y.needs()};
        return what < 0 || what >= all.length ? Due.OUTSIDE : all[what];
    }

    private void remember(World ahead) {
        past.add(ahead);
        if (past.size() > 30) {
            past.remove(0);
        }
    }

    int go(int s, int house) {
        if (noSinger(s)) {
            return Due.UNKNOWN;
        }
        if (house < 0 || house >= w.n) {
            return Due.OUTSIDE;
        }
        World ahead = w.copy();
        if (w.singers.get(s).house == house || !w.walk(s, house)) {
            return Due.NOT;
        }
        remember(ahead);
        return w.singers.get(s).songs;
    }

    int sing(int s, int c) {
        if (noSinger(s) || noChild(c)) {
            return Due.UNKNOWN;
        }
        World ahead = w.copy();
        int sung = w.sings(s, c);
        if (sung == 0) {
            return Due.NOT;
        }
        remember(ahead);
        return sung;
    }

    int carry(int c, int way) {
        if (noChild(c)) {
            return Due.UNKNOWN;
        }
        if (Math.abs((long) way) != 1) {
            return Due.OUTSIDE;
        }
        World ahead = w.copy();
        if (!w.carries(c, way)) {
            return Due.NOT;
        }
        remember(ahead);
        return w.children.get(c).house;
    }

    int evening(int n) {
        if (n < 1 || n > 20) {
            return Due.OUTSIDE;
        }
        if (w.n == 0) {
            return Due.NOT;
        }
        if (w.evenings > 9000) {
            return Due.FULL;
        }
        for (int i = 0; i < n; i++) {
            remember(w.copy());
            w.ends();
        }
        return w.evenings;
    }

    private int draw(int n) {
        seed = BigInteger.valueOf(seed).multiply(BigInteger.valueOf(1103515245)).add(BigInteger.valueOf(12345))
            .mod(BigInteger.TWO.pow(31)).longValue();
        return (int) (seed / 65536 % n);
    }

    int drift(int n) {
        if (n < 1 || n > 20) {
            return Due.OUTSIDE;
        }
        if (w.n == 0) {
            return Due.NOT;
        }
        if (w.evenings > 9000) {
            return Due.FULL;
        }
        for (int i = 0; i < n; i++) {
            remember(w.copy());
            if (w.singers.isEmpty() || w.children.isEmpty()) {
                continue;
            }
            int deed = draw(6);
            int s = draw(w.singers.size());
            int c = draw(w.children.size());
            if (deed <= 3) {
                w.walk(s, w.children.get(c).house);
                w.sings(s, c);
            } else if (deed == 4) {
                w.carries(c, 1);
            } else {
                w.ends();
            }
        }
        return told(10);
    }

    int undo(int n) {
        if (n < 1 || n > 30) {
            return Due.OUTSIDE;
        }
        if (n > past.size()) {
            return Due.NOT;
        }
        for (int i = 0; i < n; i++) {
            w = past.remove(past.size() - 1);
        }
        return w.evenings;
    }

    int steps(int s, int c) {
        return noSinger(s) || noChild(c) ? Due.UNKNOWN : Math.abs(w.singers.get(s).house - w.children.get(c).house);
    }

    int can(int s, int c) {
        return noSinger(s) || noChild(c) ? Due.UNKNOWN : w.copy().putDown(s, c) < 0 ? 0 : 1;
    }

    int pays(int s, int c) {
        return noSinger(s) || noChild(c) ? Due.UNKNOWN : Math.max(0, w.copy().putDown(s, c));
    }

    int plan(int s) {
        if (s == -1) {
            return bestWay(false)[6];
        }
        return noSinger(s) ? Due.UNKNOWN : bestWay(false)[s];
    }

    /** The children of the singers, and behind them how much is reached. */
    private int[] bestWay(boolean heads) {
        int[][] worth = new int[w.singers.size()][w.children.size()];
        for (int s = 0; s < worth.length; s++) {
            for (int c = 0; c < worth[s].length; c++) {
                int pays = w.copy().putDown(s, c);
                worth[s][c] = heads ? Math.min(1, pays) : pays;
            }
        }
        int[] best = {-1, -1, -1, -1, -1, -1, -1};
        tryWays(worth, 0, 0, new int[] {-1, -1, -1, -1, -1, -1, 0}, best);
        return best;
    }

    private static void tryWays(int[][] worth, int s, int taken, int[] way, int[] best) {
        if (s == worth.length) {
            if (way[6] > best[6]) {
                System.arraycopy(way, 0, best, 0, 7);
            }
            return;
        }
        for (int c = 0; c < worth[s].length; c++) {
            if (worth[s][c] >= 0 && (taken & 1 << c) == 0) {
                way[s] = c;
                way[6] += worth[s][c];
                tryWays(worth, s + 1, taken | 1 << c, way, best);
                way[6] -= worth[s][c];
            }
        }
        way[s] = -1;
        tryWays(worth, s + 1, taken, way, best);
    }

    int round(int s, int what) {
        if (noSinger(s)) {
            return Due.UNKNOWN;
        }
        if (what < 0 || what > 1) {
            return Due.OUTSIDE;
        }
        List<String> ways = new ArrayList<>();
        allRounds(w, s, "", ways);
        String best = "";
        for (String way : ways) {
            if (way.length() > best.length() || way.length() == best.length() && way.compareTo(best) < 0) {
                best = way;
            }
        }
        return what == 0 ? best.length() : best.isEmpty() ? 0 : Integer.parseInt(best);
    }

    private static void allRounds(World from, int s, String way, List<String> ways) {
        ways.add(way);
        // Backwards, so that the order in which ways are found is of no help.
        for (int c = from.children.size() - 1; c >= 0; c--) {
            World next = from.copy();
            if (next.putDown(s, c) >= 0) {
                allRounds(next, s, way + (c + 1), ways);
            }
        }
    }

    int colic(int n, int q) {
        if (n < 0 || n > 60 || q < 0 || q > 100) {
            return Due.OUTSIDE;
        }
        BigInteger odds = BigInteger.TEN.pow(9);
        for (int i = 0; i < n; i++) {
            odds = odds.multiply(BigInteger.valueOf(q)).divide(BigInteger.valueOf(100));
        }
        return odds.intValueExact();
    }

    int owed(int v, boolean is) {
        if (v < 0 || v > 198) {
            return Due.OUTSIDE;
        }
        if (owed.size() == 6) {
            return Due.FULL;
        }
        owed.add(new int[] {v, is ? 1 : 0});
        return owed.size();
    }

    private List<Integer> fitting() {
        List<Integer> fit = new ArrayList<>();
        for (int s = 0; s < w.singers.size(); s++) {
            int notches = w.singers.get(s).notches;
            if (owed.stream().allMatch(o -> o[1] == 1 ? notches >= o[0] : notches < o[0])) {
                fit.add(s);
            }
        }
        return fit;
    }

    int couldBe() {
        return fitting().stream().mapToInt(s -> 1 << s).sum();
    }

    int ask() {
        List<Integer> fit = fitting();
        int best = -1;
        long least = Long.MAX_VALUE;
        for (int v = 198; v >= 1; v--) {
            int bound = v;
            long more = fit.stream().filter(s -> w.singers.get(s).notches >= bound).count();
            long less = fit.size() - more;
            if (more > 0 && less > 0 && Math.max(more, less) <= least) {
                least = Math.max(more, less);
                best = v;
            }
        }
        return best;
    }

    int write(int s, int notches) {
        if (noSinger(s)) {
            return Due.UNKNOWN;
        }
        if (notches < 0 || notches > 198) {
            return Due.OUTSIDE;
        }
        if (book.size() == 20) {
            return Due.FULL;
        }
        book.add(new int[] {s, notches});
        return book.size();
    }

    int judge() {
        for (int[] entry : book) {
            if (w.singers.get(entry[0]).notches != entry[1]) {
                return book.indexOf(entry);
            }
        }
        return -1;
    }

    int tear() {
        int both = owed.size() + book.size();
        owed.clear();
        book.clear();
        return both;
    }

    int seed(int v) {
        if (v < 0) {
            return Due.OUTSIDE;
        }
        int was = (int) seed;
        seed = v;
        return was;
    }

    int keep(int i) {
        if (i != 0 && i != 1) {
            return Due.UNKNOWN;
        }
        images[i] = w.copy();
        imageSeeds[i] = seed;
        past.clear();
        return 1;
    }

    int goBack(int i) {
        if (i != 0 && i != 1) {
            return Due.UNKNOWN;
        }
        if (images[i] == null) {
            return Due.NOT;
        }
        w = images[i].copy();
        seed = imageSeeds[i];
        past.clear();
        return 1;
    }
}
