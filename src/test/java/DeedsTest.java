/** Promises 8 to 13: go, sing, carry, evening, drift, undo. */
public final class DeedsTest {
    public static void main(String[] args) {
        goes();
        sings();
        voices();
        kinds();
        heardAddsUp();
        theLastNotch();
        sungToHasABound();
        lateHasABound();
        carried();
        evenings();
        defaults();
        eveningsHaveABound();
        driftRefusals();
        driftWithoutSingers();
        driftByDraws();
        undone();
        undoneKeepsThirty();
        Due.end("DeedsTest");
    }

    private static void goes() {
        LullabyDebts x = Due.withRow("r9 5;s0 20 9 4;");
        Due.due("go(1, 0)", x.go(1, 0), Due.UNKNOWN);
        Due.due("go(-1, 99)", x.go(-1, 99), Due.UNKNOWN);
        Due.due("go(0, -1)", x.go(0, -1), Due.OUTSIDE);
        Due.due("go(0, 9)", x.go(0, 9), Due.OUTSIDE);
        Due.due("go(0, 4) where he is", x.go(0, 4), Due.NOT);
        Due.due("told(18)", x.told(18), 0);
        Due.due("go(0, 1)", x.go(0, 1), 2);
        Due.due("go(0, 4) with too few", x.go(0, 4), Due.NOT);
        Due.due("house", x.singer(0, 3), 1);
        Due.due("go(0, 3)", x.go(0, 3), 0);
        Due.due("go(0, 4) with none", x.go(0, 4), Due.NOT);
        Due.due("told(18)", x.told(18), 2);
        Due.due("notches", x.singer(0, 2), 18);
    }

    private static void sings() {
        LullabyDebts x = Due.withRow("r3 6;s0 20 2 0;s0 20 0 0;s0 20 9 1;c0 4 0;c0 9 1;");
        Due.due("sing(3, 0)", x.sing(3, 0), Due.UNKNOWN);
        Due.due("sing(0, 2)", x.sing(0, 2), Due.UNKNOWN);
        Due.due("sing(-1, -1)", x.sing(-1, -1), Due.UNKNOWN);
        Due.due("sing(0, 1) in another house", x.sing(0, 1), Due.NOT);
        Due.due("sing(1, 0) by one who is free", x.sing(1, 0), Due.NOT);
        Due.due("sing(0, 0) goes on when all is paid", x.sing(0, 0), 4);
        Due.dueSinger("paid", x, 0, 0, 20, 0, 0, 2, 0, 0);
        Due.dueChild("asleep", x, 0, 0, 4, 0, 0, 4, 1, 0);
        Due.due("told(9)", x.told(9), 0);
        Due.due("sing(2, 1) till no song is left", x.sing(2, 1), 6);
        Due.dueSinger("late", x, 2, 0, 20, 6, 1, 0, 1, 1);
        Due.dueChild("awake still", x, 1, 0, 9, 1, 1, 6, 0, 3);
        Due.due("told(9)", x.told(9), 1);
        Due.due("sing(2, 1) with none left", x.sing(2, 1), Due.NOT);
        Due.due("told(18)", x.told(18), 2);

        LullabyDebts y = Due.withRow("r1 9;s0 20 9 0;s0 20 9 0;c0 4 0;");
        Due.due("sing(0, 0)", y.sing(0, 0), 4);
        Due.due("sing(1, 0) to one asleep", y.sing(1, 0), Due.NOT);
    }

    private static void voices() {
        LullabyDebts x = Due.withRow("r2 9;s0 20 50 0;s1 20 50 0;s2 20 50 0;s2 20 50 1;s3 20 50 0;c0 3 0;");
        int[] pays = {6, 3, 3, 6, 6};
        int[] paysOnOdd = {6, 3, 3, 6, 3};
        for (int s = 0; s < 5; s++) {
            Due.due("pays(" + s + ", 0)", x.pays(s, 0), pays[s]);
            if (s == 3) {
                x.go(s, 0);
            }
            Due.due("sing(" + s + ", 0)", x.sing(s, 0), 3);
            Due.due("notches of " + s, x.singer(s, 2), 100 - pays[s]);
            x.undo(1);
            x.evening(1);
            if (s == 3) {
                x.go(s, 0);
            }
            x.sing(s, 0);
            Due.due("notches of " + s + " on an odd evening", x.singer(s, 2), 100 - paysOnOdd[s]);
            x.undo(s == 3 ? 3 : 2);
        }
        // A widower's home tells, not where the child was told to lie.
        x.undo(30);
        x.carry(0, 1);
        Due.due("pays(2, 0) away from home", x.pays(2, 0), 6);
        Due.due("pays(3, 0) at home", x.pays(3, 0), 3);
    }

    private static void kinds() {
        LullabyDebts x = Due.withRow("r1 30;s0 20 99 0;c0 7 0;c1 7 0;c2 7 0;c3 7 0;c2 1 0;c2 20 0;");
        int[] needs = {7, 14, 4, 7, 1, 11};
        for (int c = 0; c < 6; c++) {
            Due.due("needs of " + c, x.child(c, 6), needs[c]);
        }
        Due.due("sing(0, 3)", x.sing(0, 3), 7);
        Due.dueChild("a bad one asleep", x, 3, 3, 7, 0, 0, 7, 1, 0);
        x.evening(1);
        Due.due("a bad one needs more", x.child(3, 6), 8);
        Due.due("sing(0, 3) again", x.sing(0, 3), 8);
        x.evening(1);
        Due.due("and more", x.child(3, 6), 9);
    }

    private static void heardAddsUp() {
        LullabyDebts x = Due.withRow("r1 5;s0 20 99 0;s0 20 99 0;c1 4 0;");
        Due.due("sing(0, 0)", x.sing(0, 0), 5);
        Due.dueChild("half", x, 0, 1, 4, 0, 1, 5, 0, 3);
        Due.due("sing(1, 0)", x.sing(1, 0), 3);
        Due.dueChild("asleep", x, 0, 1, 4, 0, 0, 8, 1, 0);
        Due.due("told(9)", x.told(9), 1);
        x.evening(1);
        Due.dueChild("next evening", x, 0, 1, 4, 0, 1, 0, 1, 8);
    }

    private static void theLastNotch() {
        LullabyDebts x = Due.withRow("r1 1;s1 49 1 0;c0 1 0;");
        x.sing(0, 0);
        x.evening(3);
        Due.due("one notch is left", x.singer(0, 2), 1);
        Due.due("he is not free", x.told(7), 0);
        Due.due("told(11)", x.told(11), 0);
        Due.due("can(0, 0)", x.can(0, 0), 1);
        Due.due("pays(0, 0)", x.pays(0, 0), 1);
        Due.due("round(0, 0)", x.round(0, 0), 1);
        Due.due("never", x.singer(0, 6), 1);
        x.evening(1);
        Due.due("in default for one notch", x.told(8), 1);
        Due.due("sing(0, 0)", x.sing(0, 0), 1);
        Due.due("he is free", x.told(7), 1);
    }

    private static void sungToHasABound() {
        LullabyDebts x = Due.withRow("r1 30;s1 20 99 0;c0 1 0;");
        for (int i = 1; i <= 101; i++) {
            x.sing(0, 0);
            x.evening(1);
            if (i >= 98) {
                Due.due("sung to after " + i, x.child(0, 5), Math.min(99, i));
            }
        }
    }

    private static void lateHasABound() {
        LullabyDebts x = Due.withRow("r1 1;" + "s1 1 99 0;".repeat(6) + "c1 20 0;");
        int late = 0;
        for (int i = 0; i < 380; i++) {
            x.drift(20);
            late = x.told(9);
            if (late == 999) {
                break;
            }
        }
        Due.due("told(9)", late, 999);
        int notches = x.told(10);
        x.drift(20);
        x.drift(20);
        Due.due("more was sung", x.told(10) < notches ? 1 : 0, 1);
        Due.due("told(9) stays", x.told(9), 999);
    }

    private static void carried() {
        LullabyDebts x = Due.withRow("r3 5;s0 20 9 1;c0 9 1;c0 1 0;");
        Due.due("carry(2, 1)", x.carry(2, 1), Due.UNKNOWN);
        Due.due("carry(-1, 0)", x.carry(-1, 0), Due.UNKNOWN);
        Due.due("carry(0, 0)", x.carry(0, 0), Due.OUTSIDE);
        Due.due("carry(0, 2)", x.carry(0, 2), Due.OUTSIDE);
        Due.due("carry(0, -2)", x.carry(0, -2), Due.OUTSIDE);
        Due.due("carry(1, -1) below the row", x.carry(1, -1), Due.NOT);
        x.sing(0, 0);
        Due.due("heard", x.child(0, 4), 5);
        Due.due("carry(0, 1)", x.carry(0, 1), 2);
        Due.dueChild("carried", x, 0, 0, 9, 2, 1, 0, 0, 9);
        Due.due("carry(0, 1) above the row", x.carry(0, 1), Due.NOT);
        Due.due("carry(0, -1)", x.carry(0, -1), 1);
        Due.due("carry(0, -1)", x.carry(0, -1), 0);
        x.evening(1);
        Due.due("it stays there", x.child(0, 2), 0);
        x.go(0, 0);
        x.sing(0, 1);
        Due.due("carry(1, 1) asleep", x.carry(1, 1), Due.NOT);
        Due.due("carry(1, 5) asleep", x.carry(1, 5), Due.OUTSIDE);
        Due.due("told(18)", x.told(18), 7);
    }

    private static void evenings() {
        LullabyDebts x = Due.withRow("r3 9;s0 60 9 1;s0 20 9 0;c0 2 1;c0 9 1;");
        Due.due("evening(0)", x.evening(0), Due.OUTSIDE);
        Due.due("evening(21)", x.evening(21), Due.OUTSIDE);
        Due.due("evening(-1)", x.evening(-1), Due.OUTSIDE);
        x.sing(0, 0);
        x.go(0, 2);
        x.go(1, 1);
        x.sing(1, 1);
        Due.due("evening(1)", x.evening(1), 1);
        Due.dueSinger("home", x, 0, 0, 60, 14, 1, 9, 1);
        Due.dueSinger("home", x, 1, 0, 20, 2, 0, 9, 0);
        Due.dueChild("awake", x, 0, 0, 2, 1, 1, 0, 1, 2);
        Due.dueChild("awake", x, 1, 0, 9, 1, 1, 0, 0, 9);
        Due.due("told(9) stays", x.told(9), 1);
        Due.due("evening(2)", x.evening(2), 3);
        Due.due("age", x.singer(0, 1), 60);
        Due.due("evening(1)", x.evening(1), 4);
        Due.due("a year older", x.singer(0, 1), 61);
        Due.due("a year older", x.singer(1, 1), 21);
        Due.due("evening(20)", x.evening(20), 24);
        Due.due("six years older", x.singer(1, 1), 26);
        for (int i = 0; i < 7; i++) {
            x.evening(20);
        }
        Due.due("evenings", x.told(5), 164);
        Due.due("99 at most", x.singer(0, 1), 99);
        Due.due("61", x.singer(1, 1), 61);
    }

    private static void defaults() {
        LullabyDebts x = Due.withRow("r1 9;s0 49 1 0;s0 49 0 0;s0 50 9 0;s0 48 2 0;c0 1 0;");
        x.evening(3);
        Due.due("nobody yet", x.told(8), 0);
        x.evening(1);
        Due.due("just 50", x.told(8), 1);
        x.sing(0, 0);
        Due.due("paid", x.singer(0, 2), 0);
        Due.due("stays so", x.told(8), 1);
        x.evening(3);
        Due.due("not yet", x.told(8), 1);
        x.sing(3, 0);
        Due.due("half paid", x.singer(3, 2), 2);
        x.evening(1);
        Due.due("both", x.told(8), 9);
        x.undo(1);
        Due.due("undone", x.told(8), 1);
        x.evening(20);
        Due.due("later", x.told(8), 9);
    }

    private static void eveningsHaveABound() {
        LullabyDebts x = Due.withRow("r1 1;");
        for (int i = 1; i <= 450; i++) {
            x.evening(20);
        }
        Due.due("evenings", x.told(5), 9000);
        Due.due("drift(1) at 9000", x.drift(1), 0);
        Due.due("evening(1) at 9000", x.evening(1), 9001);
        Due.due("evening(1) above", x.evening(1), Due.FULL);
        Due.due("drift(1) above", x.drift(1), Due.FULL);
        Due.due("evening(21) above", x.evening(21), Due.OUTSIDE);
        Due.due("drift(0) above", x.drift(0), Due.OUTSIDE);
        Due.due("undo(1)", x.undo(1), 9000);
        Due.due("evening(20) at 9000", x.evening(20), 9020);
        Due.due("evening(1) above", x.evening(1), Due.FULL);
    }

    private static void driftRefusals() {
        LullabyDebts x = Due.withRow("r1 1;s0 20 5 0;c0 1 0;");
        Due.due("drift(0)", x.drift(0), Due.OUTSIDE);
        Due.due("drift(21)", x.drift(21), Due.OUTSIDE);
        Due.due("seed is as it was", x.seed(0), 0);
        Due.due("told(18)", x.told(18), 0);
    }

    private static void driftWithoutSingers() {
        LullabyDebts x = Due.withRow("r2 5;s0 20 5 0;");
        x.seed(9);
        Due.due("drift(3)", x.drift(3), 10);
        Due.due("no draw", x.seed(9), 9);
        Due.due("each is one to undo", x.told(18), 3);
        Due.due("undo(3)", x.undo(3), 0);
        LullabyDebts y = Due.withRow("r2 5;c0 5 0;");
        Due.due("drift(20)", y.drift(20), 0);
        Due.due("no draw", y.seed(0), 0);
        Due.due("told(5)", y.told(5), 0);
        Due.due("told(18)", y.told(18), 20);
    }

    /** Each draw by hand: the deed of a seed is reckoned here, and its answer is due. */
    private static void driftByDraws() {
        int[] done = new int[6];
        for (int seed = 0; seed < 60; seed++) {
            LullabyDebts x = Due.withRow("r4 7;s0 20 9 1;s0 20 0 2;c0 3 3;c0 4 1;c0 20 2;");
            x.seed(seed);
            long state = seed;
            int[] draw = new int[3];
            int[] of = {6, 2, 3};
            for (int i = 0; i < 3; i++) {
                state = (state * 1103515245L + 12345L) % 2147483648L;
                draw[i] = (int) (state / 65536 % of[i]);
            }
            done[draw[0]]++;
            int notches = x.drift(1);
            String when = "drift(1) from seed " + seed;
            Due.due(when + ": the seed", x.seed(0), state);
            Due.due(when + ": the evening", x.told(5), draw[0] == 5 ? 1 : 0);
            int[] beds = {3, 1, 2};
            for (int c = 0; c < 3; c++) {
                int up = draw[0] == 4 && c == draw[2] && beds[c] < 3 ? 1 : 0;
                Due.due(when + ": where child " + c + " is", x.child(c, 2), beds[c] + up);
            }
            boolean visits = draw[0] < 4;
            int[] homes = {1, 2};
            for (int s = 0; s < 2; s++) {
                int house = visits && s == draw[1] ? beds[draw[2]] : homes[s];
                Due.due(when + ": where singer " + s + " is", x.singer(s, 3), house);
            }
            int[] paid = {6, 8, 12};
            Due.due(when, notches, visits && draw[1] == 0 ? 18 - paid[draw[2]] : 18);
        }
        for (int deed = 0; deed < 6; deed++) {
            Due.due("deed " + deed + " was drawn", done[deed] > 0 ? 1 : 0, 1);
        }
    }

    private static void undone() {
        LullabyDebts x = Due.withRow("r3 9;s0 49 9 1;c3 4 1;c1 9 2;");
        Due.due("undo(0)", x.undo(0), Due.OUTSIDE);
        Due.due("undo(31)", x.undo(31), Due.OUTSIDE);
        Due.due("undo(1)", x.undo(1), Due.NOT);
        x.seed(3);
        x.owed(4, true);
        x.write(0, 18);
        x.sing(0, 0);
        x.go(0, 2);
        x.sing(0, 1);
        x.carry(1, -1);
        Due.due("a refused deed", x.go(0, 9), Due.OUTSIDE);
        x.evening(4);
        x.drift(2);
        int seed = x.seed(3);
        x.seed(seed);
        Due.due("told(18)", x.told(18), 10);
        Due.due("told(8)", x.told(8), 1);
        Due.due("undo(11)", x.undo(11), Due.NOT);
        Due.due("undo(2)", x.undo(2), 4);
        Due.due("undo(1)", x.undo(1), 3);
        Due.due("age", x.singer(0, 1), 49);
        Due.due("told(8)", x.told(8), 0);
        Due.due("undo(3)", x.undo(3), 0);
        Due.dueChild("carried", x, 1, 1, 9, 1, 1, 0, 0, 18);
        Due.due("undo(1)", x.undo(1), 0);
        Due.dueChild("sung to", x, 1, 1, 9, 2, 1, 4, 0, 14);
        Due.due("told(9)", x.told(9), 1);
        Due.due("undo(1)", x.undo(1), 0);
        Due.dueSinger("there", x, 0, 0, 49, 10, 2, 4, 1, 1);
        Due.due("told(9)", x.told(9), 0);
        Due.due("undo(2)", x.undo(2), 0);
        Due.dueSinger("at first", x, 0, 0, 49, 18, 1, 9, 1, 1);
        Due.dueChild("at first", x, 0, 3, 4, 1, 1, 0, 0, 4);
        Due.due("undo(1)", x.undo(1), Due.NOT);
        Due.due("the seed stays", x.seed(0), seed);
        Due.due("owed stays", x.told(16), 1);
        Due.due("the book stays", x.told(17), 1);
    }

    private static void undoneKeepsThirty() {
        LullabyDebts x = Due.withRow("r3 9;s0 49 9 1;c3 4 1;");
        x.evening(20);
        x.evening(20);
        Due.due("told(18)", x.told(18), 30);
        Due.due("undo(30)", x.undo(30), 10);
        Due.due("undo(1)", x.undo(1), Due.NOT);
        x.carry(0, 1);
        Due.due("undo(2)", x.undo(2), Due.NOT);
        Due.due("undo(1)", x.undo(1), 10);
        Due.due("child's house", x.child(0, 2), 1);
    }
}
