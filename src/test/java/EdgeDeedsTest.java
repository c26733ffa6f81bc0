/** Section 2 and promises 8 to 11 and 13: each sentence that names a bound, inside it, on it and outside it. */
public final class EdgeDeedsTest {
    public static void main(String[] args) {
        owesTwice();
        stepsTakeSongs();
        housesToGoTo();
        needsByKind();
        needsOfABadOne();
        songsJustEnough();
        debtIsNoneAtLeast();
        aNotchOrMore();
        trueAndOffKey();
        widowers();
        basses();
        sungToNinetyNine();
        lateNineHundred();
        carriedToTheHouseBeside();
        carriedOneHeardNothing();
        waysToCarry();
        eveningBegins();
        eveningsAtATime();
        everyFourthIsAYear();
        ninetyNineYears();
        fiftyJustThen();
        fiftyFromTheFirstYear();
        aboveNineThousand();
        nineThousandAndTwenty();
        thirtyToUndo();
        deedsToUndo();
        undoneBeyondTheWrap();
        sinceTheTextOrImage();
        Due.end("EdgeDeedsTest");
    }

    /** "NOTCHES are halves of SONGS: a SINGER owes twice O at first." */
    private static void owesTwice() {
        int[] songs = {0, 1, 2, 98, 99};
        for (int o : songs) {
            LullabyDebts x = Due.withRow("r1 1;s0 1 " + o + " 0;");
            Due.due("owes twice " + o, x.singer(0, 2), 2 * o);
            Due.due("FREE with " + o, x.told(7), o == 0 ? 1 : 0);
        }
    }

    /** "from HOUSE to HOUSE, each step takes one of his SONGS left (not with fewer)" */
    private static void stepsTakeSongs() {
        for (int songs = 18; songs <= 20; songs++) {
            LullabyDebts up = Due.withRow("r20 " + songs + ";s0 20 9 0;");
            Due.due("19 steps up with " + songs, up.go(0, 19), songs < 19 ? Due.NOT : songs - 19);
            Due.due("house", up.singer(0, 3), songs < 19 ? 0 : 19);
            Due.due("songs left", up.singer(0, 4), songs < 19 ? songs : songs - 19);
            LullabyDebts down = Due.withRow("r20 " + songs + ";s0 20 9 19;");
            Due.due("19 steps down with " + songs, down.go(0, 0), songs < 19 ? Due.NOT : songs - 19);
            Due.due("house", down.singer(0, 3), songs < 19 ? 19 : 0);
        }
        LullabyDebts x = Due.withRow("r4 1;s0 20 0 1;");
        Due.due("two steps with one", x.go(0, 3), Due.NOT);
        Due.due("one step with one, though he is FREE", x.go(0, 2), 0);
        Due.due("one step with none", x.go(0, 1), Due.NOT);
        Due.due("he stays", x.singer(0, 3), 2);
    }

    /** "GOES to a HOUSE (0 .. N less 1) ... OUTSIDE, NOT: he is there" */
    private static void housesToGoTo() {
        int[] rows = {1, 2, 20};
        for (int n : rows) {
            LullabyDebts x = Due.withRow("r" + n + " 30;s0 20 9 0;");
            Due.due("go(0, -1) of " + n, x.go(0, -1), Due.OUTSIDE);
            Due.due("go(0, N) of " + n, x.go(0, n), Due.OUTSIDE);
            Due.due("go(0, N and 1) of " + n, x.go(0, n + 1), Due.OUTSIDE);
            Due.due("go(0, 0) where he is", x.go(0, 0), Due.NOT);
            Due.due("go(0, N less 1) of " + n, x.go(0, n - 1), n == 1 ? Due.NOT : 31 - n);
            Due.due("go(0, N less 1) again", x.go(0, n - 1), Due.NOT);
            Due.due("told(18)", x.told(18), n == 1 ? 0 : 1);
            Due.due("go(0, greatest)", x.go(0, Integer.MAX_VALUE), Due.OUTSIDE);
            Due.due("go(0, least)", x.go(0, Integer.MIN_VALUE), Due.OUTSIDE);
        }
    }

    /** "KIND 0 (mild): P; 1 (colic) twice P; 2 (a foundling) half of P (cut), and 1; 3 (a bad one) P" */
    private static void needsByKind() {
        int[] by = {1, 2, 3, 4, 19, 20};
        int[][] needs = {{1, 2, 3, 4, 19, 20}, {2, 4, 6, 8, 38, 40}, {1, 2, 2, 3, 10, 11}, {1, 2, 3, 4, 19, 20}};
        for (int kind = 0; kind < 4; kind++) {
            for (int i = 0; i < by.length; i++) {
                LullabyDebts x = Due.withRow("r1 30;s1 20 99 0;s1 20 99 0;c" + kind + " " + by[i] + " 0;");
                String child = "kind " + kind + " by " + by[i];
                Due.due(child, x.child(0, 6), needs[kind][i]);
                Due.due(child + " is sung to", x.sing(0, 0), Math.min(30, needs[kind][i]));
                Due.due(child + " needs then", x.child(0, 6), Math.max(0, needs[kind][i] - 30));
                Due.due(child + " is awake", x.child(0, 3), needs[kind][i] > 30 ? 1 : 0);
            }
        }
    }

    /** "3 (a bad one) P, and how often it was SUNG TO; all less what it HEARD this EVENING (0 at least; 0 asleep)" */
    private static void needsOfABadOne() {
        LullabyDebts x = Due.withRow("r1 3;s0 20 99 0;s0 20 99 0;c3 1 0;");
        Due.due("needs at first", x.child(0, 6), 1);
        x.sing(0, 0);
        Due.dueChild("asleep: none, though one was sung and two are needed", x, 0, 3, 1, 0, 0, 1, 1, 0);
        for (int often = 1; often <= 3; often++) {
            x.evening(1);
            Due.due("needs when sung to " + often, x.child(0, 6), 1 + often);
            Due.due("sing(0, 0)", x.sing(0, 0), Math.min(3, 1 + often));
            Due.due("left", x.child(0, 6), often < 3 ? 0 : 1);
        }
        Due.dueChild("late", x, 0, 3, 1, 0, 1, 3, 3, 1);
        Due.due("sing(1, 0)", x.sing(1, 0), 1);
        Due.dueChild("asleep", x, 0, 3, 1, 0, 0, 4, 4, 0);
    }

    /** "till it sleeps, or he has none left ... if it sleeps then, it is SUNG TO once more, else he was LATE" */
    private static void songsJustEnough() {
        for (int songs = 4; songs <= 6; songs++) {
            LullabyDebts x = Due.withRow("r1 " + songs + ";s0 20 99 0;s0 20 99 0;c0 5 0;");
            boolean sleeps = songs >= 5;
            Due.due("sing(0, 0) with " + songs, x.sing(0, 0), Math.min(5, songs));
            Due.due("songs left of " + songs, x.singer(0, 4), songs == 6 ? 1 : 0);
            Due.dueChild("with " + songs, x, 0, 0, 5, 0, sleeps ? 0 : 1, Math.min(5, songs), sleeps ? 1 : 0, sleeps ? 0 : 1);
            Due.due("told(6) with " + songs, x.told(6), sleeps ? 0 : 1);
            Due.due("told(9) with " + songs, x.told(9), sleeps ? 0 : 1);
            Due.due("owes still", x.singer(0, 2), 198 - 2 * Math.min(5, songs));
            Due.due("the other's turn", x.sing(1, 0), sleeps ? Due.NOT : 1);
            Due.due("asleep", x.child(0, 3), 0);
            Due.due("sung to once", x.child(0, 5), 1);
        }
    }

    /** "each pays NOTCHES (his debt 0 at least)" */
    private static void debtIsNoneAtLeast() {
        for (int needs = 1; needs <= 4; needs++) {
            LullabyDebts x = Due.withRow("r1 9;s0 20 2 0;c0 " + needs + " 0;");
            Due.due("sings to the end", x.sing(0, 0), needs);
            Due.due("owes behind " + needs, x.singer(0, 2), needs == 1 ? 2 : 0);
            Due.due("FREE behind " + needs, x.told(7), needs == 1 ? 0 : 1);
            Due.due("told(10)", x.told(10), needs == 1 ? 2 : 0);
            Due.due("asleep", x.child(0, 3), 0);
        }
        // The last notch is paid by a song that is worth two.
        LullabyDebts y = Due.withRow("r2 9;s2 20 1 0;c0 1 0;c0 1 1;");
        y.sing(0, 0);
        Due.due("a notch is left", y.singer(0, 2), 1);
        y.go(0, 1);
        Due.due("sing(0, 1)", y.sing(0, 1), 1);
        Due.due("owes none", y.singer(0, 2), 0);
    }

    /** "who owes a NOTCH or more"; "Who owes none is FREE." */
    private static void aNotchOrMore() {
        LullabyDebts x = Due.withRow("r1 9;s1 20 1 0;c0 1 0;c0 1 0;c0 1 0;");
        Due.due("with two notches", x.sing(0, 0), 1);
        Due.due("not free with one", x.told(7), 0);
        Due.due("with one notch", x.sing(0, 1), 1);
        Due.due("free with none", x.told(7), 1);
        Due.due("with none", x.sing(0, 2), Due.NOT);
        Due.dueChild("not sung to", x, 2, 0, 1, 0, 1, 0, 0, 1);
    }

    /** "0 (true) 2 NOTCHES; 1 (off key) 1" */
    private static void trueAndOffKey() {
        LullabyDebts x = Due.withRow("r1 9;s0 20 50 0;s1 20 50 0;c0 1 0;c0 1 0;");
        for (int evening = 0; evening < 4; evening++) {
            x.sing(0, 0);
            x.sing(1, 1);
            Due.due("true", x.singer(0, 2), 100 - 2 * (evening + 1));
            Due.due("off key", x.singer(1, 2), 100 - (evening + 1));
            x.evening(1);
        }
    }

    /** "2 (a widower) 2, but 1 to a CHILD in the HOUSE where he is at home" */
    private static void widowers() {
        for (int home = 0; home < 3; home++) {
            LullabyDebts x = Due.withRow("r3 9;s2 20 50 " + home + ";c0 3 0;c0 3 1;c0 3 2;");
            for (int house = 0; house < 3; house++) {
                int pays = house == home ? 3 : 6;
                Due.due("pays of home " + home + " in " + house, x.pays(0, house), pays);
                x.go(0, house);
                x.sing(0, house);
                Due.due("owes of home " + home + " in " + house, x.singer(0, 2), 100 - pays);
                x.undo(house == home ? 1 : 2);
            }
        }
        // The house where the child is now tells.
        LullabyDebts y = Due.withRow("r3 9;s2 20 50 1;c0 3 0;");
        Due.due("away", y.pays(0, 0), 6);
        y.carry(0, 1);
        Due.due("at home", y.pays(0, 0), 3);
        y.carry(0, 1);
        Due.due("away again", y.pays(0, 0), 6);
        y.go(0, 2);
        y.carry(0, -1);
        Due.due("at home, though he is out", y.pays(0, 0), 3);
    }

    /** "3 (a bass) 2 in an EVENING of an even number, else 1 (the first EVENING is 0)" */
    private static void basses() {
        LullabyDebts x = Due.withRow("r1 9;s3 20 50 0;c0 3 0;");
        int owes = 100;
        for (int evening = 0; evening < 6; evening++) {
            Due.due("the evening's number", x.told(5), evening);
            int pays = evening % 2 == 0 ? 6 : 3;
            Due.due("pays in evening " + evening, x.pays(0, 0), pays);
            x.sing(0, 0);
            owes -= pays;
            Due.due("owes behind evening " + evening, x.singer(0, 2), owes);
            x.evening(1);
        }
    }

    /** "it is SUNG TO once more (99 at most)" */
    private static void sungToNinetyNine() {
        LullabyDebts x = Due.withRow("r1 1;s1 20 99 0;c0 1 0;");
        for (int often = 1; often <= 101; often++) {
            Due.due("sing(0, 0), time " + often, x.sing(0, 0), 1);
            Due.due("sung to, time " + often, x.child(0, 5), Math.min(99, often));
            Due.due("asleep, time " + often, x.child(0, 3), 0);
            x.evening(1);
        }
    }

    /** "else he was LATE (counted, 999 at most)" */
    private static void lateNineHundred() {
        LullabyDebts x = Due.withRow("r1 1;" + "s1 1 99 0;".repeat(6) + "c1 20 0;");
        int late = 0;
        for (int i = 0; i < 150 && late < 960; i++) {
            x.drift(20);
            late = x.told(9);
        }
        Due.due("late is near its bound", late >= 960 && late < 998 ? 1 : 0, 1);
        for (int i = late; i < 1003; i++) {
            int s = (i - late) % 6;
            if (s == 0) {
                x.evening(1);
            }
            Due.due("sing(" + s + ", 0)", x.sing(s, 0), 1);
            if (i >= 996) {
                Due.due("late behind " + (i + 1), x.told(9), Math.min(999, i + 1));
            }
        }
        x.undo(1);
        Due.due("late, the last undone", x.told(9), 999);
    }

    /** "a CHILD that is awake to the HOUSE beside (one up or down the row)"; "NOT: asleep, there is no such HOUSE" */
    private static void carriedToTheHouseBeside() {
        LullabyDebts one = Due.withRow("r1 9;c0 1 0;");
        Due.due("up of one", one.carry(0, 1), Due.NOT);
        Due.due("down of one", one.carry(0, -1), Due.NOT);
        Due.due("it stays", one.child(0, 2), 0);
        LullabyDebts x = Due.withRow("r20 9;s0 9 9 0;c0 1 18;c0 1 1;");
        Due.due("up to the last", x.carry(0, 1), 19);
        Due.due("up beyond the last", x.carry(0, 1), Due.NOT);
        Due.due("it stays", x.child(0, 2), 19);
        Due.due("down from the last", x.carry(0, -1), 18);
        Due.due("down to the first", x.carry(1, -1), 0);
        Due.due("down below the first", x.carry(1, -1), Due.NOT);
        Due.due("it stays", x.child(1, 2), 0);
        x.sing(0, 1);
        Due.due("up when asleep", x.carry(1, 1), Due.NOT);
        Due.due("it stays", x.child(1, 2), 0);
        x.evening(1);
        Due.due("up when awake again", x.carry(1, 1), 1);
    }

    /** "it HEARD nothing then" */
    private static void carriedOneHeardNothing() {
        LullabyDebts x = Due.withRow("r2 4;s0 9 99 0;c0 5 0;c0 5 0;");
        x.sing(0, 0);
        Due.due("needs one more", x.child(0, 6), 1);
        x.carry(0, 1);
        Due.dueChild("carried", x, 0, 0, 5, 1, 1, 0, 0, 5);
        Due.due("told(9) stays", x.told(9), 1);
        x.carry(0, -1);
        Due.dueChild("carried back", x, 0, 0, 5, 0, 1, 0, 0, 5);
        x.undo(2);
        Due.dueChild("undone", x, 0, 0, 5, 0, 1, 4, 0, 1);
    }

    /** "CARRIED up (1) or down (-1) the row: the HOUSE. UNKNOWN, OUTSIDE" */
    private static void waysToCarry() {
        LullabyDebts x = Due.withRow("r9 4;c0 5 4;");
        int[] outside = {Integer.MIN_VALUE, -2, 0, 2, Integer.MAX_VALUE};
        for (int way : outside) {
            Due.due("carry(0, " + way + ")", x.carry(0, way), Due.OUTSIDE);
        }
        Due.due("carry(0, 1)", x.carry(0, 1), 5);
        Due.due("carry(0, -1)", x.carry(0, -1), 4);
        Due.due("told(18)", x.told(18), 2);
    }

    /** "An EVENING ends: all CHILDREN are awake, HEARD nothing; all SINGERS are at home, with D SONGS" */
    private static void eveningBegins() {
        LullabyDebts x = Due.withRow("r6 9;" + "s0 9 9 0;".repeat(6) + "c0 1 0;c0 9 1;c0 9 2;c0 9 3;c0 9 4;c0 1 5;");
        for (int i = 0; i < 6; i++) {
            if (i > 0) {
                x.go(i, i);
            }
            x.sing(i, i);
        }
        Due.due("the first and the last sleep", x.told(6), 0b011110);
        x.evening(1);
        Due.due("all are awake", x.told(6), 0b111111);
        for (int i = 0; i < 6; i++) {
            Due.due("house of " + i, x.singer(i, 3), 0);
            Due.due("songs of " + i, x.singer(i, 4), 9);
            Due.due("heard by " + i, x.child(i, 4), 0);
            Due.due("where " + i + " lies", x.child(i, 2), i);
            Due.due("sung to of " + i, x.child(i, 5), i == 0 || i == 5 ? 1 : 0);
        }
        Due.due("told(9) stays", x.told(9), 4);
    }

    /** "n EVENINGS end (1 .. 20): EVENINGS. OUTSIDE" */
    private static void eveningsAtATime() {
        LullabyDebts x = Due.withRow("r1 1;s0 1 1 0;");
        int[] outside = {Integer.MIN_VALUE, -1, 0, 21, 22, Integer.MAX_VALUE};
        for (int n : outside) {
            Due.due("evening(" + n + ")", x.evening(n), Due.OUTSIDE);
            Due.due("told(5)", x.told(5), 0);
            Due.due("told(18)", x.told(18), 0);
        }
        Due.due("evening(1)", x.evening(1), 1);
        Due.due("told(18)", x.told(18), 1);
        Due.due("evening(2)", x.evening(2), 3);
        Due.due("told(18)", x.told(18), 3);
        Due.due("evening(19)", x.evening(19), 22);
        Due.due("told(18)", x.told(18), 22);
        Due.due("evening(20)", x.evening(20), 42);
        Due.due("told(18)", x.told(18), 30);
    }

    /** "each 4th EVENING (its number, then, a multiple of 4) all SINGERS are one YEAR older" */
    private static void everyFourthIsAYear() {
        LullabyDebts x = Due.withRow("r1 1;s0 1 1 0;s0 60 0 0;");
        for (int evening = 1; evening <= 13; evening++) {
            x.evening(1);
            Due.due("age in evening " + evening, x.singer(0, 1), 1 + evening / 4);
            Due.due("age of the other", x.singer(1, 1), 60 + evening / 4);
        }
        x.evening(20);
        Due.due("age in evening 33", x.singer(0, 1), 9);
        x.undo(1);
        Due.due("age in evening 32", x.singer(0, 1), 9);
        x.undo(1);
        Due.due("age in evening 31", x.singer(0, 1), 8);
    }

    /** "(99 at most)" */
    private static void ninetyNineYears() {
        LullabyDebts x = Due.withRow("r1 1;s0 60 1 0;s0 59 1 0;");
        for (int i = 0; i < 7; i++) {
            x.evening(20);
        }
        x.evening(15);
        Due.due("age in evening 155", x.singer(0, 1), 98);
        x.evening(1);
        Due.due("age in evening 156", x.singer(0, 1), 99);
        Due.due("age of the younger", x.singer(1, 1), 98);
        x.evening(4);
        Due.due("age in evening 160", x.singer(0, 1), 99);
        Due.due("age of the younger", x.singer(1, 1), 99);
        x.evening(20);
        Due.due("age in evening 180", x.singer(0, 1), 99);
        Due.due("nobody is in default", x.told(8), 0);
    }

    /** "who is 50 just then and owes a NOTCH or more is IN DEFAULT (a SET; stays so, paid or not)" */
    private static void fiftyJustThen() {
        LullabyDebts x = Due.withRow("r1 30;s0 48 1 0;s0 49 1 0;s0 50 1 0;s0 49 0 0;s1 49 1 0;s1 49 1 0;c0 1 0;c0 2 0;");
        x.sing(4, 0);
        x.sing(5, 1);
        Due.due("owes one notch", x.singer(4, 2), 1);
        Due.due("owes none", x.singer(5, 2), 0);
        x.evening(3);
        Due.due("in evening 3", x.told(8), 0);
        x.evening(1);
        Due.due("in evening 4", x.told(8), 0b010010);
        x.sing(1, 0);
        Due.due("paid", x.singer(1, 2), 0);
        Due.due("stays so", x.told(8), 0b010010);
        x.evening(3);
        Due.due("in evening 7", x.told(8), 0b010010);
        x.evening(1);
        Due.due("in evening 8", x.told(8), 0b010011);
        x.evening(20);
        Due.due("later", x.told(8), 0b010011);
        Due.due("he is not, though he owes", x.singer(2, 2), 2);
    }

    private static void fiftyFromTheFirstYear() {
        LullabyDebts x = Due.withRow("r1 1;s0 1 1 0;");
        for (int i = 0; i < 9; i++) {
            x.evening(20);
        }
        x.evening(15);
        Due.due("age in evening 195", x.singer(0, 1), 49);
        Due.due("in default", x.told(8), 0);
        x.evening(1);
        Due.due("age in evening 196", x.singer(0, 1), 50);
        Due.due("in default", x.told(8), 1);
    }

    /** "FULL: EVENINGS are above 9000." of evening(), drift() */
    private static void aboveNineThousand() {
        LullabyDebts x = Due.withRow("r1 1;s0 1 1 0;c0 1 0;");
        for (int i = 0; i < 449; i++) {
            x.evening(20);
        }
        Due.due("evening(19)", x.evening(19), 8999);
        Due.due("evening(1) at 8999", x.evening(1), 9000);
        x.seed(EdgeDrawsTest.seedFor(5, 0, 0, 1, 1));
        Due.due("drift(1) at 9000", x.drift(1), 2);
        Due.due("told(5)", x.told(5), 9001);
        int seed = x.seed(0);
        x.seed(seed);
        Due.due("drift(1) at 9001", x.drift(1), Due.FULL);
        Due.due("the seed is as it was", x.seed(seed), seed);
        Due.due("evening(1) at 9001", x.evening(1), Due.FULL);
        Due.due("told(5)", x.told(5), 9001);
        Due.due("told(18)", x.told(18), 30);
        Due.due("drift(21) at 9001", x.drift(21), Due.OUTSIDE);
        Due.due("evening(0) at 9001", x.evening(0), Due.OUTSIDE);
        Due.due("undo(1)", x.undo(1), 9000);
        Due.due("evening(1) at 9000", x.evening(1), 9001);
        Due.due("evening(20) at 9001", x.evening(20), Due.FULL);
        Due.dueRow(x, "r1 1;", 0, Due.NONE);
        Due.due("evening(1) of a new row", x.evening(1), 1);
    }

    private static void nineThousandAndTwenty() {
        LullabyDebts x = Due.withRow("r1 1;s0 1 1 0;");
        for (int i = 0; i < 449; i++) {
            x.evening(20);
        }
        x.keep(0);
        x.evening(20);
        Due.due("evening(20) at 9000", x.evening(20), 9020);
        Due.due("evening(1) at 9020", x.evening(1), Due.FULL);
        Due.due("drift(1) at 9020", x.drift(1), Due.FULL);
        Due.due("undo(19)", x.undo(19), 9001);
        Due.due("evening(1) at 9001", x.evening(1), Due.FULL);
        Due.due("goBack(0)", x.goBack(0), 1);
        Due.due("evening(20) at 8980", x.evening(20), 9000);
        Due.due("drift(20) at 9000", x.drift(20), 2);
        Due.due("told(5)", x.told(5), 9000);
        Due.due("told(18)", x.told(18), 30);
    }

    /** "The n latest (1 .. 30) are undone: EVENINGS. OUTSIDE, NOT: not so many."; "(30 at most are kept)" */
    private static void thirtyToUndo() {
        int[] outside = {Integer.MIN_VALUE, -1, 0, 31, 32, Integer.MAX_VALUE};
        for (int deeds = 29; deeds <= 31; deeds++) {
            LullabyDebts x = Due.withRow("r1 1;");
            x.evening(20);
            Due.due("deeds", x.evening(deeds - 20), deeds);
            for (int n : outside) {
                Due.due("undo(" + n + ") of " + deeds, x.undo(n), Due.OUTSIDE);
            }
            Due.due("told(18) of " + deeds, x.told(18), Math.min(30, deeds));
            Due.due("undo(30) of " + deeds, x.undo(30), deeds < 30 ? Due.NOT : deeds - 30);
            Due.due("told(18) then", x.told(18), deeds < 30 ? 29 : 0);
            Due.due("undo(29) then", x.undo(29), deeds < 30 ? 0 : Due.NOT);
            Due.due("undo(1) then", x.undo(1), Due.NOT);
            Due.due("told(5)", x.told(5), Math.max(0, deeds - 30));
        }
        LullabyDebts y = Due.withRow("r1 1;");
        Due.due("undo(1) of none", y.undo(1), Due.NOT);
        y.evening(1);
        Due.due("undo(2) of one", y.undo(2), Due.NOT);
        Due.due("undo(1) of one", y.undo(1), 0);
    }

    /** "the latest deeds (go(), sing(), carry(), each EVENING of evening(), each of the times BY DRAWS)" */
    private static void deedsToUndo() {
        LullabyDebts x = Due.withRow("r3 9;s0 20 9 0;c0 1 1;c0 1 1;");
        x.go(0, 1);
        Due.due("go()", x.told(18), 1);
        x.sing(0, 0);
        Due.due("sing()", x.told(18), 2);
        x.carry(1, 1);
        Due.due("carry()", x.told(18), 3);
        x.evening(2);
        Due.due("evening(2)", x.told(18), 5);
        x.drift(3);
        Due.due("drift(3)", x.told(18), 8);
        x.seed(3);
        x.owed(3, true);
        x.write(0, 3);
        x.tear();
        x.feed(' ');
        x.plan(0);
        Due.due("no other call is a deed", x.told(18), 8);
        Due.due("undo(3)", x.undo(3), 2);
        Due.due("undo(2)", x.undo(2), 0);
        Due.due("undo(1)", x.undo(1), 0);
        Due.dueChild("not carried", x, 1, 0, 1, 1, 1, 0, 0, 1);
        Due.due("undo(1)", x.undo(1), 0);
        Due.dueChild("not sung to", x, 0, 0, 1, 1, 1, 0, 0, 1);
        Due.dueSinger("there", x, 0, 0, 20, 18, 1, 8, 0);
        Due.due("undo(1)", x.undo(1), 0);
        Due.dueSinger("at home", x, 0, 0, 20, 18, 0, 9, 0);
    }

    private static void undoneBeyondTheWrap() {
        LullabyDebts x = Due.withRow("r1 1;s0 20 9 0;");
        x.evening(20);
        x.evening(20);
        x.evening(5);
        Due.due("undo(10) of 45", x.undo(10), 35);
        Due.due("told(18)", x.told(18), 20);
        Due.due("undo(21)", x.undo(21), Due.NOT);
        Due.due("evening(20)", x.evening(20), 55);
        Due.due("told(18)", x.told(18), 30);
        for (int i = 1; i <= 30; i++) {
            Due.due("undo(1), time " + i, x.undo(1), 55 - i);
            Due.due("age", x.singer(0, 1), 20 + (55 - i) / 4);
        }
        Due.due("undo(1), time 31", x.undo(1), Due.NOT);
    }

    /** "since the text or IMAGE" */
    private static void sinceTheTextOrImage() {
        LullabyDebts x = Due.withRow("r1 1;s0 20 9 0;");
        x.evening(3);
        Due.dueRow(x, "r1;", -11, 2);
        Due.due("told(18) behind a fault", x.told(18), 3);
        x.keep(0);
        Due.due("undo(1) behind keep()", x.undo(1), Due.NOT);
        x.evening(2);
        Due.due("undo(3) behind keep()", x.undo(3), Due.NOT);
        x.goBack(0);
        Due.due("undo(1) behind goBack()", x.undo(1), Due.NOT);
        x.evening(2);
        Due.due("undo(2) behind goBack()", x.undo(2), 3);
        x.evening(2);
        Due.dueRow(x, "r1 1;", 0, Due.NONE);
        Due.due("undo(1) behind the text", x.undo(1), Due.NOT);
    }
}
