/** Promises 14 to 19, and what told() and singer() try: 11 to 15, and 6. */
public final class TriedTest {
    public static void main(String[] args) {
        unknown();
        stepsCanPays();
        plans();
        planOfLikeOnes();
        planOfAll();
        mostAsleepIsNotMostPaid();
        rounds();
        roundEndsWhenFree();
        never();
        willDefault();
        lastHardestSpread();
        colic();
        nothingChanges();
        Due.end("TriedTest");
    }

    private static void unknown() {
        LullabyDebts x = Due.withRow("r3 9;s0 20 9 1;c0 2 1;c0 2 1;");
        int[][] pairs = {{-1, 0}, {1, 0}, {0, -1}, {0, 2}, {6, 6}};
        for (int[] p : pairs) {
            Due.due("steps", x.steps(p[0], p[1]), Due.UNKNOWN);
            Due.due("can", x.can(p[0], p[1]), Due.UNKNOWN);
            Due.due("pays", x.pays(p[0], p[1]), Due.UNKNOWN);
        }
        Due.due("plan(-2)", x.plan(-2), Due.UNKNOWN);
        Due.due("plan(1)", x.plan(1), Due.UNKNOWN);
        Due.due("round(1, 5)", x.round(1, 5), Due.UNKNOWN);
        Due.due("round(-1, 0)", x.round(-1, 0), Due.UNKNOWN);
        Due.due("round(0, 2)", x.round(0, 2), Due.OUTSIDE);
        Due.due("round(0, -1)", x.round(0, -1), Due.OUTSIDE);
    }

    private static void stepsCanPays() {
        LullabyDebts x = Due.withRow("r9 6;s0 20 9 4;s0 20 0 0;s1 20 1 2;c0 4 2;c0 5 2;c0 1 8;");
        Due.due("steps(0, 0)", x.steps(0, 0), 2);
        Due.due("steps(0, 2)", x.steps(0, 2), 4);
        Due.due("steps(2, 0)", x.steps(2, 0), 0);
        Due.due("can(0, 0) with just enough", x.can(0, 0), 1);
        Due.due("can(0, 1) with one too few", x.can(0, 1), 0);
        Due.due("can(0, 2)", x.can(0, 2), 1);
        Due.due("can(1, 0) who is free", x.can(1, 0), 0);
        Due.due("pays(0, 0)", x.pays(0, 0), 8);
        Due.due("pays(0, 1)", x.pays(0, 1), 0);
        Due.due("pays(1, 0)", x.pays(1, 0), 0);
        Due.due("pays(2, 0) no more than is owed", x.pays(2, 0), 2);
        x.go(0, 2);
        Due.due("steps(0, 0) there", x.steps(0, 0), 0);
        x.sing(0, 0);
        Due.due("can(2, 0) asleep", x.can(2, 0), 0);
        Due.due("pays(2, 0) asleep", x.pays(2, 0), 0);
        Due.due("steps(2, 0) asleep", x.steps(2, 0), 0);
    }

    private static void plans() {
        LullabyDebts x = Due.withRow("r3 6;s2 49 2 1;s3 49 2 0;c2 5 1;c3 3 0;c0 3 2;");
        Due.due("plan(-1)", x.plan(-1), 8);
        Due.due("plan(0)", x.plan(0), 1);
        Due.due("plan(1)", x.plan(1), 0);
        LullabyDebts alone = Due.withRow("r3 6;s0 49 2 1;");
        Due.due("plan(-1) without children", alone.plan(-1), 0);
        Due.due("plan(0) without children", alone.plan(0), Due.NONE);
        // The first singer leaves the greater child to the second, who can't reach another.
        LullabyDebts y = Due.withRow("r9 9;s1 20 50 0;s1 20 50 8;c0 5 0;c0 8 1;");
        Due.due("plan(-1)", y.plan(-1), 8);
        Due.due("plan(0)", y.plan(0), 1);
        Due.due("plan(1)", y.plan(1), Due.NONE);
        LullabyDebts z = Due.withRow("r9 13;s1 20 50 0;s0 20 50 8;c0 5 0;c0 8 3;");
        Due.due("plan(-1)", z.plan(-1), 21);
        Due.due("plan(0)", z.plan(0), 0);
        Due.due("plan(1)", z.plan(1), 1);
    }

    private static void planOfLikeOnes() {
        LullabyDebts x = Due.withRow("r1 9;s0 20 9 0;s0 20 9 0;s0 20 9 0;c0 2 0;c0 2 0;");
        Due.due("plan(-1)", x.plan(-1), 8);
        Due.due("plan(0) the lesser child", x.plan(0), 0);
        Due.due("plan(1)", x.plan(1), 1);
        Due.due("plan(2) none last", x.plan(2), Due.NONE);
        Due.due("told(14)", x.told(14), 2);
        // All that singer 0 owes is paid by either child: the lesser is his, though it does for singer 1 too.
        LullabyDebts y = Due.withRow("r1 9;s0 20 1 0;s0 20 1 0;c0 2 0;c0 3 0;c0 1 0;");
        Due.due("plan(0)", y.plan(0), 0);
        Due.due("plan(1)", y.plan(1), 1);
    }

    private static void planOfAll() {
        LullabyDebts x = Due.withRow("r6 30;" + "s0 20 9 0;".repeat(6) + "c0 1 5;c0 2 4;c0 3 3;c0 4 2;c0 5 1;c0 6 0;");
        Due.due("plan(-1)", x.plan(-1), 42);
        for (int s = 0; s < 6; s++) {
            Due.due("plan(" + s + ")", x.plan(s), s);
        }
        Due.due("told(14)", x.told(14), 6);
        // Each singer reaches one child alone.
        LullabyDebts y = Due.withRow("r12 1;s0 20 9 10;s0 20 9 8;s0 20 9 6;s0 20 9 4;s0 20 9 2;s0 20 9 0;"
            + "c0 1 0;c0 1 2;c0 1 4;c0 1 6;c0 1 8;c0 1 10;");
        for (int s = 0; s < 6; s++) {
            Due.due("plan(" + s + ")", y.plan(s), 5 - s);
        }
        Due.due("plan(-1)", y.plan(-1), 12);
        Due.due("told(14)", y.told(14), 6);
        y.sing(2, 3);
        Due.due("plan(-1) with one asleep", y.plan(-1), 10);
        Due.due("plan(2) with one asleep", y.plan(2), Due.NONE);
        Due.due("plan(5) with one asleep", y.plan(5), 0);
        // What was reckoned for six singers must not count for fewer.
        Due.dueRow(x, "r1 9;s0 20 9 0;s0 20 9 0;c0 1 0;c0 2 0;c0 3 0;", 2, Due.NONE);
        Due.due("plan(-1) of fewer", x.plan(-1), 10);
        Due.due("plan(0) of fewer", x.plan(0), 1);
        Due.due("plan(1) of fewer", x.plan(1), 2);
        Due.due("told(14) of fewer", x.told(14), 2);
        Due.dueRow(x, "r1 9;c0 1 0;c0 2 0;c0 3 0;", 0, Due.NONE);
        Due.due("plan(-1) of no singers", x.plan(-1), 0);
        Due.due("told(14) of no singers", x.told(14), 0);
    }

    private static void mostAsleepIsNotMostPaid() {
        // Most is paid if singer 0 takes child 0 alone; two sleep if he leaves it to singer 1, who owes little.
        LullabyDebts x = Due.withRow("r2 20;s0 20 50 0;s0 20 1 0;c0 20 0;c0 1 1;");
        Due.due("told(14)", x.told(14), 2);
        LullabyDebts y = Due.withRow("r3 9;s0 20 50 0;s0 20 50 2;c0 8 1;c0 1 0;");
        Due.due("plan(-1)", y.plan(-1), 18);
        Due.due("told(14)", y.told(14), 2);
        Due.due("told(14) of one child", Due.withRow("r1 9;s0 20 5 0;s0 20 5 0;c0 8 0;").told(14), 1);
        Due.due("told(14) of none who owes", Due.withRow("r1 9;s0 20 0 0;c0 8 0;").told(14), 0);
    }

    private static void rounds() {
        LullabyDebts x = Due.withRow("r20 30;s0 50 99 0;s0 50 99 19;s0 50 0 0;c1 20 0;c0 20 19;c2 20 10;c3 20 10;c3 1 5;c0 1 9;");
        Due.due("round(0, 0)", x.round(0, 0), 3);
        Due.due("round(0, 1)", x.round(0, 1), 365);
        Due.due("round(1, 0)", x.round(1, 0), 3);
        Due.due("round(1, 1)", x.round(1, 1), 365);
        Due.due("round(2, 0) who is free", x.round(2, 0), 0);
        Due.due("round(2, 1) who is free", x.round(2, 1), 0);
        LullabyDebts y = Due.withRow("r1 30;s0 50 99 0;" + "c0 1 0;".repeat(6));
        Due.due("round(0, 0) of all", y.round(0, 0), 6);
        Due.due("round(0, 1) of all", y.round(0, 1), 123456);
        y.sing(0, 2);
        Due.due("round(0, 0) of those awake", y.round(0, 0), 5);
        Due.due("round(0, 1) of those awake", y.round(0, 1), 12456);
        LullabyDebts z = Due.withRow("r9 6;s0 50 99 4;c0 1 6;c0 1 3;c0 9 4;");
        Due.due("round(0, 1) by the nearer first", z.round(0, 1), 21);
        LullabyDebts w = Due.withRow("r9 6;s0 50 99 4;c0 9 6;");
        Due.due("round(0, 0) of none", w.round(0, 0), 0);
        Due.due("round(0, 1) of none", w.round(0, 1), 0);
    }

    private static void roundEndsWhenFree() {
        LullabyDebts x = Due.withRow("r1 30;s0 50 3 0;c0 3 0;c0 2 0;c0 2 0;");
        Due.due("round(0, 0)", x.round(0, 0), 2);
        Due.due("round(0, 1)", x.round(0, 1), 21);
        LullabyDebts y = Due.withRow("r2 30;s2 50 2 0;c0 3 0;c0 1 0;c0 1 1;");
        Due.due("round(0, 0) of a widower", y.round(0, 0), 3);
        Due.due("round(0, 1) of a widower", y.round(0, 1), 231);
    }

    private static void never() {
        LullabyDebts x = Due.withRow("r1 3;s0 20 7 0;s1 20 7 0;s2 20 7 0;s3 20 7 0;s0 20 0 0;c0 1 0;");
        int[] want = {3, 5, 3, 3, 0};
        int[] wantOnOdd = {3, 5, 3, 4, 0};
        for (int s = 0; s < 5; s++) {
            Due.due("never of " + s, x.singer(s, 6), want[s]);
        }
        x.sing(0, 0);
        Due.due("songs left don't tell", x.singer(0, 6), 2);
        x.undo(1);
        x.evening(1);
        for (int s = 0; s < 5; s++) {
            Due.due("never of " + s + " on an odd evening", x.singer(s, 6), wantOnOdd[s]);
        }
        LullabyDebts y = Due.withRow("r1 1;s1 20 99 0;");
        Due.due("never at most", y.singer(0, 6), 198);
    }

    private static void willDefault() {
        LullabyDebts x = Due.withRow("r1 1;s1 49 2 0;s1 49 3 0;s1 48 4 0;s1 48 5 0;s0 50 99 0;s0 49 4 0;");
        Due.due("told(15)", x.told(15), 0b001010);
        x.evening(1);
        Due.due("told(15) an evening later", x.told(15), 0b101111);
        x.evening(3);
        Due.due("told(15) when some are 50", x.told(15), 0b001100);
        x.evening(4);
        Due.due("told(15) when all are", x.told(15), 0);
        Due.due("told(8)", x.told(8), 0b101111);
    }

    private static void lastHardestSpread() {
        LullabyDebts x = Due.withRow("r9 30;s0 20 3 4;s0 20 5 4;s0 20 5 4;c0 7 4;c3 8 2;c1 4 8;");
        Due.due("told(11)", x.told(11), 1);
        Due.due("told(12)", x.told(12), 1);
        Due.due("told(13)", x.told(13), 6);
        x.go(1, 2);
        x.sing(1, 1);
        Due.due("told(11) later", x.told(11), 2);
        Due.due("told(12) later", x.told(12), 2);
        x.sing(0, 0);
        x.go(2, 8);
        x.sing(2, 2);
        Due.due("told(11) when all are free", x.told(11), Due.NONE);
        Due.due("told(12) when all sleep", x.told(12), 0);
        Due.due("told(7)", x.told(7), 7);
        LullabyDebts y = Due.withRow("r9 30;s0 20 3 4;c0 7 4;");
        Due.due("told(13) of one", y.told(13), 0);
        Due.due("told(13) of one in the first house", Due.withRow("r9 30;c0 7 0;").told(13), 0);
        Due.due("told(13) of two in the last house", Due.withRow("r20 30;c0 7 19;c0 7 19;").told(13), 0);
        LullabyDebts z = Due.withRow("r9 30;");
        Due.due("told(11) of none", z.told(11), Due.NONE);
        Due.due("told(12) of none", z.told(12), Due.NONE);
        Due.due("told(13) of none", z.told(13), 0);
    }

    private static void colic() {
        LullabyDebts x = new LullabyDebts();
        Due.due("colic(0, 0)", x.colic(0, 0), 1000000000);
        Due.due("colic(0, 100)", x.colic(0, 100), 1000000000);
        Due.due("colic(1, 0)", x.colic(1, 0), 0);
        Due.due("colic(60, 100)", x.colic(60, 100), 1000000000);
        Due.due("colic(2, 90)", x.colic(2, 90), 810000000);
        Due.due("colic(60, 99)", x.colic(60, 99), 547156620);
        Due.due("colic(5, 1)", x.colic(5, 1), 0);
        Due.due("colic(61, 50)", x.colic(61, 50), Due.OUTSIDE);
        Due.due("colic(-1, 50)", x.colic(-1, 50), Due.OUTSIDE);
        Due.due("colic(1, 101)", x.colic(1, 101), Due.OUTSIDE);
        Due.due("colic(1, -1)", x.colic(1, -1), Due.OUTSIDE);
    }

    private static void nothingChanges() {
        LullabyDebts x = Due.withRow("r9 20;s0 48 10 2;s1 30 7 5;c0 5 2;c1 4 6;");
        x.go(0, 3);
        for (int i = 0; i < 2; i++) {
            x.steps(0, 1);
            x.can(0, 0);
            x.pays(1, 1);
            x.plan(-1);
            x.plan(1);
            x.round(0, 1);
            x.colic(3, 5);
            x.ask();
            x.couldBe();
            x.judge();
            Due.dueTold("tried", x, 9, 20, 2, 2, 0, 0, 3, 0, 0, 0, 34, 0, 1, 4, 2, 0, 0, 0, 1);
            Due.dueSinger("tried", x, 0, 0, 48, 20, 3, 19, 2, 1);
        }
    }
}
