import java.math.BigInteger;

/** BY DRAWS and promises 12 and 26: each sentence that names a bound, inside it, on it and outside it. */
public final class EdgeDrawsTest {
    public static void main(String[] args) {
        timesByDraws();
        seedHasBounds();
        seedIsNoneAtFirst();
        seedWrapsAround();
        drawsOfEach();
        noSingersOrChildren();
        goesWithSongsEnough();
        singsIfThatCanBe();
        carriedIfThatCanBe();
        eveningEnds();
        eachIsOneToUndo();
        Due.end("EdgeDrawsTest");
    }

    private static long next(long seed) {
        return BigInteger.valueOf(seed).multiply(BigInteger.valueOf(1103515245)).add(BigInteger.valueOf(12345))
            .mod(BigInteger.TWO.pow(31)).longValueExact();
    }

    /** The least seed whose first draws of 6, of the singers and of the children are these. */
    static int seedFor(int deed, int s, int c, int singers, int children) {
        for (int seed = 0; seed < 1000000; seed++) {
            long first = next(seed);
            long second = next(first);
            if (first / 65536 % 6 == deed && second / 65536 % singers == s && next(second) / 65536 % children == c) {
                return seed;
            }
        }
        Due.due("a seed for deed " + deed, 0, 1);
        return 0;
    }

    /** One time by draws, with this deed, singer and child. */
    private static int drift(LullabyDebts x, int deed, int s, int c) {
        x.seed(seedFor(deed, s, c, x.told(2), x.told(3)));
        return x.drift(1);
    }

    /** "n times BY DRAWS (1 .. 20): NOTCHES owed by all. OUTSIDE, NOT: no ROW" */
    private static void timesByDraws() {
        int[] outside = {Integer.MIN_VALUE, -1, 0, 21, 22, Integer.MAX_VALUE};
        int[] inside = {1, 2, 19, 20};
        LullabyDebts none = new LullabyDebts();
        for (int n : outside) {
            Due.due("drift(" + n + ") without a ROW", none.drift(n), Due.OUTSIDE);
            LullabyDebts x = Due.withRow("r1 1;s0 1 9 0;c0 1 0;");
            Due.due("drift(" + n + ")", x.drift(n), Due.OUTSIDE);
            Due.due("told(18)", x.told(18), 0);
            Due.due("the seed", x.seed(0), 0);
        }
        for (int n : inside) {
            Due.due("drift(" + n + ") without a ROW", none.drift(n), Due.NOT);
            LullabyDebts x = Due.withRow("r1 1;s0 1 9 0;c0 1 0;");
            int owed = x.drift(n);
            Due.due("drift(" + n + ")", owed, x.told(10));
            Due.due("told(18)", x.told(18), n);
            long seed = 0;
            for (int i = 0; i < 3 * n; i++) {
                seed = next(seed);
            }
            Due.due("the seed behind " + n, x.seed(0), seed);
        }
        Due.due("the seed without a ROW", none.seed(0), 0);
    }

    /** "THE SEED becomes v (0 .. 2147483647): what it was. OUTSIDE." */
    private static void seedHasBounds() {
        LullabyDebts x = new LullabyDebts();
        int[] inside = {0, 1, 2147483646, 2147483647, 0};
        int was = 0;
        for (int v : inside) {
            Due.due("seed(-1)", x.seed(-1), Due.OUTSIDE);
            Due.due("seed(least)", x.seed(Integer.MIN_VALUE), Due.OUTSIDE);
            Due.due("seed(" + v + ")", x.seed(v), was);
            was = v;
        }
    }

    /** "THE SEED (0 at first"; of row(): "THE SEED stays" */
    private static void seedIsNoneAtFirst() {
        LullabyDebts x = new LullabyDebts();
        Due.due("at first", x.seed(17), 0);
        Due.dueRow(x, "r1 1;s0 1 9 0;c0 1 0;", 1, Due.NONE);
        Due.due("behind a row", x.seed(17), 17);
        Due.dueRow(x, "", 0, Due.NONE);
        Due.due("behind an empty text", x.seed(17), 17);
        Due.dueRow(x, "x", -11, 0);
        Due.due("behind a fault", x.seed(17), 17);
    }

    /** "each DRAW it becomes it times 1103515245 and 12345, left over by 2 to the 31" */
    private static void seedWrapsAround() {
        int[] seeds = {0, 1, 2, 65535, 65536, 1073741823, 1073741824, 2147483646, 2147483647};
        for (int seed : seeds) {
            LullabyDebts x = Due.withRow("r1 1;s0 1 9 0;c0 1 0;");
            x.seed(seed);
            x.drift(1);
            Due.due("the seed behind " + seed, x.seed(0), next(next(next(seed))));
        }
    }

    /** "a DRAW of 6, of SINGERS, of CHILDREN": the greatest of each is drawn too */
    private static void drawsOfEach() {
        for (int n = 1; n <= 6; n++) {
            String text = "r2 9;" + "s0 1 9 0;".repeat(n) + "c0 1 1;".repeat(n);
            for (int drawn = 0; drawn < n; drawn++) {
                LullabyDebts x = Due.withRow(text);
                Due.due("drift(1): singer and child " + drawn + " of " + n, drift(x, 0, drawn, n - 1 - drawn), 18 * n - 2);
                for (int i = 0; i < n; i++) {
                    Due.due("house of singer " + i, x.singer(i, 3), i == drawn ? 1 : 0);
                    Due.due("child " + i + " awake", x.child(i, 3), i == n - 1 - drawn ? 0 : 1);
                }
            }
        }
    }

    /** "if there are SINGERS and CHILDREN" */
    private static void noSingersOrChildren() {
        String[] texts = {"r2 9;", "r2 9;s0 1 9 0;", "r2 9;c0 1 0;"};
        for (String text : texts) {
            LullabyDebts x = Due.withRow(text);
            int seed = seedFor(5, 0, 0, 1, 1);
            x.seed(seed);
            Due.due("drift(1) of " + text, x.drift(1), text.indexOf('s') < 0 ? 0 : 18);
            Due.due("no draw", x.seed(0), seed);
            Due.due("no evening", x.told(5), 0);
            Due.due("one to undo", x.told(18), 1);
            Due.due("undo(1)", x.undo(1), 0);
        }
        LullabyDebts y = Due.withRow("r2 9;s0 1 9 0;c0 1 0;");
        Due.due("drift(1) of one each", drift(y, 5, 0, 0), 18);
        Due.due("an evening", y.told(5), 1);
    }

    /** "on 0 to 3 that SINGER GOES to that CHILD's HOUSE, if he has SONGS enough" */
    private static void goesWithSongsEnough() {
        for (int deed = 0; deed <= 3; deed++) {
            for (int steps = 2; steps <= 4; steps++) {
                LullabyDebts x = Due.withRow("r5 3;s0 1 9 0;c0 5 " + steps + ";");
                String when = "deed " + deed + ", " + steps + " steps with three songs";
                Due.due(when, drift(x, deed, 0, 0), steps == 2 ? 16 : 18);
                Due.due(when + ": house", x.singer(0, 3), steps == 4 ? 0 : steps);
                Due.due(when + ": songs", x.singer(0, 4), steps == 4 ? 3 : 0);
                Due.due(when + ": heard", x.child(0, 4), steps == 2 ? 1 : 0);
                Due.due(when + ": late", x.told(9), steps == 2 ? 1 : 0);
            }
            LullabyDebts y = Due.withRow("r5 3;s0 1 9 2;c0 2 2;");
            Due.due("deed " + deed + " where he is", drift(y, deed, 0, 0), 14);
            Due.due("asleep", y.child(0, 3), 0);
        }
    }

    /** "and SINGS to it, if that can be" */
    private static void singsIfThatCanBe() {
        LullabyDebts free = Due.withRow("r3 9;s0 1 0 0;c0 1 2;");
        Due.due("one who is FREE", drift(free, 0, 0, 0), 0);
        Due.dueSinger("goes", free, 0, 0, 1, 0, 2, 7, 0);
        Due.due("awake", free.child(0, 3), 1);
        LullabyDebts x = Due.withRow("r3 9;s0 1 9 0;s0 1 9 0;c0 1 2;");
        drift(x, 0, 0, 0);
        Due.due("asleep", x.child(0, 3), 0);
        Due.due("to one that sleeps", drift(x, 0, 1, 0), 34);
        Due.dueSinger("goes", x, 1, 0, 1, 18, 2, 7, 0);
        Due.due("sung to once", x.child(0, 5), 1);
        LullabyDebts far = Due.withRow("r3 1;s0 1 9 0;c0 1 2;");
        Due.due("too far", drift(far, 3, 0, 0), 18);
        Due.dueSinger("stays", far, 0, 0, 1, 18, 0, 1, 0);
        Due.due("nobody is late", far.told(9), 0);
    }

    /** "on 4 the CHILD is CARRIED one up, if that can be" */
    private static void carriedIfThatCanBe() {
        LullabyDebts x = Due.withRow("r3 2;s0 1 9 0;c0 1 1;c0 3 0;");
        drift(x, 4, 0, 0);
        Due.due("one up", x.child(0, 2), 2);
        Due.due("one to undo", x.told(18), 1);
        drift(x, 4, 0, 0);
        Due.due("not beyond the last house", x.child(0, 2), 2);
        Due.due("one to undo", x.told(18), 2);
        Due.due("nobody else is carried", x.child(1, 2), 0);
        Due.due("nobody goes", x.singer(0, 3), 0);
        x.sing(0, 1);
        Due.due("heard", x.child(1, 4), 2);
        drift(x, 4, 0, 1);
        Due.due("one up", x.child(1, 2), 1);
        Due.due("heard nothing", x.child(1, 4), 0);
        LullabyDebts y = Due.withRow("r3 2;s0 1 9 0;c0 1 0;");
        y.sing(0, 0);
        drift(y, 4, 0, 0);
        Due.due("not one that sleeps", y.child(0, 2), 0);
        Due.due("it sleeps still", y.child(0, 3), 0);
        LullabyDebts one = Due.withRow("r1 2;s0 1 9 0;c0 1 0;");
        drift(one, 4, 0, 0);
        Due.due("no house beside", one.child(0, 2), 0);
    }

    /** "on 5 the EVENING ends" */
    private static void eveningEnds() {
        LullabyDebts x = Due.withRow("r3 9;s1 49 1 0;c0 1 1;");
        x.go(0, 1);
        x.sing(0, 0);
        Due.due("drift(1)", drift(x, 5, 0, 0), 1);
        Due.dueSinger("home", x, 0, 1, 49, 1, 0, 9, 0);
        Due.dueChild("awake", x, 0, 0, 1, 1, 1, 0, 1, 1);
        drift(x, 5, 0, 0);
        drift(x, 5, 0, 0);
        Due.due("told(5)", x.told(5), 3);
        Due.due("not yet", x.told(8), 0);
        drift(x, 5, 0, 0);
        Due.due("told(5)", x.told(5), 4);
        Due.due("a year older", x.singer(0, 1), 50);
        Due.due("in default", x.told(8), 1);
    }

    /** "(each one to undo, whatever is done)"; of undo(): "THE SEED stays" */
    private static void eachIsOneToUndo() {
        LullabyDebts x = Due.withRow("r3 9;s0 1 99 0;s0 1 99 2;c0 5 0;c0 9 2;");
        x.seed(4);
        x.drift(20);
        Due.due("told(18)", x.told(18), 20);
        x.drift(11);
        Due.due("told(18): thirty at most", x.told(18), 30);
        int seed = x.seed(0);
        x.seed(seed);
        Due.due("undo(30)", x.undo(30) >= 0 ? 1 : 0, 1);
        Due.due("the seed stays", x.seed(seed), seed);
        LullabyDebts once = Due.withRow("r3 9;s0 1 99 0;s0 1 99 2;c0 5 0;c0 9 2;");
        once.seed(4);
        once.drift(1);
        for (int what = 0; what < 18; what++) {
            Due.due("told(" + what + ") behind the first time", x.told(what), once.told(what));
        }
    }
}
