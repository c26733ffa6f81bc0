/** Section 3 as far as it is tried, and promises 5 to 7 and 14 to 19: each sentence that names a bound. */
public final class EdgeTriedTest {
    public static void main(String[] args) {
        whatIsTold();
        whatIsToldOfOne();
        steps();
        canWithJustEnough();
        canOwingANotch();
        canOfOneAwake();
        paysNoMoreThanIsOwed();
        planIsNoneLast();
        planOfTheLesserChild();
        planNoChildToTwo();
        planOfTheSixth();
        asleepOneEach();
        roundWithJustEnough();
        roundANotchAtLeast();
        roundOfTheLeastNumber();
        roundOfNoneAndAll();
        neverOfAnEvening();
        neverOfABass();
        neverOfAWidower();
        willDefaultByOneEvening();
        willDefaultNotYetFifty();
        last();
        hardest();
        spread();
        colicBounds();
        colicIsCut();
        Due.end("EdgeTriedTest");
    }

    /** "0 N (0 without a ROW) ... 18 how many can be undone. OUTSIDE." */
    private static void whatIsTold() {
        LullabyDebts x = new LullabyDebts();
        int[] outside = {Integer.MIN_VALUE, -2, -1, 19, 20, Integer.MAX_VALUE};
        for (int what : outside) {
            Due.due("told(" + what + ") without a ROW", x.told(what), Due.OUTSIDE);
        }
        Due.dueTold("without a ROW", x, 0, 0, 0, 0, 0, 0, 0, 0, 0, 0, 0, Due.NONE, Due.NONE, 0, 0, 0, 0, 0, 0);
        Due.dueRow(x, "r1 1;", 0, Due.NONE);
        for (int what : outside) {
            Due.due("told(" + what + ")", x.told(what), Due.OUTSIDE);
        }
        Due.dueTold("the least row", x, 1, 1, 0, 0, 0, 0, 0, 0, 0, 0, 0, Due.NONE, Due.NONE, 0, 0, 0, 0, 0, 0);
        Due.dueRow(x, "r20 30;" + "s0 60 99 19;".repeat(6) + "c1 20 0;".repeat(5) + "c1 20 19;", 6, Due.NONE);
        Due.dueTold("the greatest row", x, 20, 30, 6, 6, 0, 0, 63, 0, 0, 0, 1188, 0, 0, 19, 0, 0, 0, 0, 0);
    }

    /** "what = 0 VOICE ... 6 NEVER"; "what = 0 KIND ... 6 NEEDS now (0 asleep)"; "UNKNOWN, OUTSIDE" */
    private static void whatIsToldOfOne() {
        LullabyDebts x = Due.withRow("r9 20;" + "s1 30 7 5;".repeat(6) + "c3 2 8;".repeat(5));
        int[] outside = {Integer.MIN_VALUE, -1, 7, 8, Integer.MAX_VALUE};
        for (int what : outside) {
            Due.due("singer(5, " + what + ")", x.singer(5, what), Due.OUTSIDE);
            Due.due("child(4, " + what + ")", x.child(4, what), Due.OUTSIDE);
            Due.due("singer(6, " + what + ")", x.singer(6, what), Due.UNKNOWN);
            Due.due("child(5, " + what + ")", x.child(5, what), Due.UNKNOWN);
        }
        Due.dueSinger("the first", x, 0, 1, 30, 14, 5, 20, 5, 1);
        Due.dueSinger("the sixth", x, 5, 1, 30, 14, 5, 20, 5, 1);
        Due.dueChild("the first", x, 0, 3, 2, 8, 1, 0, 0, 2);
        Due.dueChild("the fifth", x, 4, 3, 2, 8, 1, 0, 0, 2);
        int[] nobody = {Integer.MIN_VALUE, -1, 6, 7, Integer.MAX_VALUE};
        for (int i : nobody) {
            Due.due("singer(" + i + ", 0)", x.singer(i, 0), Due.UNKNOWN);
            Due.due("child(" + i + ", 0)", x.child(i, 0), Due.UNKNOWN);
        }
    }

    /** "STEPS: from where a SINGER is to a CHILD"; one number for a SINGER and a CHILD is not one twice */
    private static void steps() {
        LullabyDebts x = Due.withRow("r20 30;s0 20 9 0;s0 20 9 19;c0 1 0;c0 1 19;");
        Due.due("none", x.steps(0, 0), 0);
        Due.due("nineteen up", x.steps(0, 1), 19);
        Due.due("nineteen down", x.steps(1, 0), 19);
        Due.due("none in the last", x.steps(1, 1), 0);
        x.go(0, 1);
        Due.due("from where he is", x.steps(0, 1), 18);
        Due.due("down", x.steps(0, 0), 1);
        x.carry(0, 1);
        Due.due("to where it is", x.steps(0, 0), 0);
        x.sing(0, 0);
        Due.due("to one that sleeps", x.steps(1, 0), 18);
    }

    /** "he could GO to a CHILD that is awake and sing it to sleep this EVENING" */
    private static void canWithJustEnough() {
        for (int songs = 6; songs <= 8; songs++) {
            LullabyDebts x = Due.withRow("r4 " + songs + ";s0 20 50 0;s0 20 50 3;c0 4 3;");
            Due.due("three steps and four songs with " + songs, x.can(0, 0), songs < 7 ? 0 : 1);
            Due.due("pays", x.pays(0, 0), songs < 7 ? 0 : 8);
            x.go(0, 1);
            Due.due("a step nearer", x.can(0, 0), songs < 7 ? 0 : 1);
            x.go(0, 0);
            Due.due("a step back", x.can(0, 0), 0);
            x.undo(2);
            Due.due("undone", x.can(0, 0), songs < 7 ? 0 : 1);
        }
        // What it heard ahead of him counts.
        LullabyDebts y = Due.withRow("r1 4;s0 20 50 0;s0 20 50 0;c0 9 0;");
        Due.due("nine with four", y.can(1, 0), 0);
        y.sing(0, 0);
        Due.due("five with four", y.can(1, 0), 0);
        Due.due("five with none", y.can(0, 0), 0);
        LullabyDebts z = Due.withRow("r1 4;s0 20 50 0;s0 20 50 0;c0 8 0;");
        z.sing(0, 0);
        Due.due("four with four", z.can(1, 0), 1);
        Due.due("pays for four", z.pays(1, 0), 8);
        z.carry(0, 1);
        Due.due("not carried, as there is one house", z.can(1, 0), 1);
    }

    /** "owing a NOTCH or more" */
    private static void canOwingANotch() {
        LullabyDebts x = Due.withRow("r1 9;s1 20 1 0;c0 1 0;c0 1 0;c0 3 0;");
        Due.due("two notches", x.can(0, 2), 1);
        Due.due("pays two", x.pays(0, 2), 2);
        x.sing(0, 0);
        Due.due("one notch", x.can(0, 2), 1);
        Due.due("pays one", x.pays(0, 2), 1);
        x.sing(0, 1);
        Due.due("no notch", x.can(0, 2), 0);
        Due.due("pays none", x.pays(0, 2), 0);
    }

    private static void canOfOneAwake() {
        LullabyDebts x = Due.withRow("r1 9;s0 20 50 0;s0 20 50 0;c3 1 0;");
        Due.due("awake", x.can(1, 0), 1);
        x.sing(0, 0);
        Due.due("asleep", x.can(1, 0), 0);
        Due.due("pays for one asleep", x.pays(1, 0), 0);
        x.evening(1);
        Due.due("awake again", x.can(1, 0), 1);
        Due.due("pays for one more", x.pays(1, 0), 4);
    }

    /** "PAYS: NOTCHES he would pay by that (0, if he CANNOT)" */
    private static void paysNoMoreThanIsOwed() {
        int[] songs = {4, 5, 6};
        for (int o : songs) {
            LullabyDebts x = Due.withRow("r1 9;s0 20 " + o + " 0;c0 5 0;");
            int owed = x.singer(0, 2);
            Due.due("pays of " + o, x.pays(0, 0), Math.min(10, 2 * o));
            x.sing(0, 0);
            Due.due("paid of " + o, owed - x.singer(0, 2), Math.min(10, 2 * o));
        }
    }

    /** "SINGER by SINGER the lesser CHILD, none last"; "NONE" */
    private static void planIsNoneLast() {
        // Either singer alone may have the child: the first has it.
        LullabyDebts x = Due.withRow("r1 9;s0 20 9 0;s0 20 9 0;c0 2 0;");
        Due.due("plan(-1)", x.plan(-1), 4);
        Due.due("plan(0)", x.plan(0), 0);
        Due.due("plan(1)", x.plan(1), Due.NONE);
        // One who pays more by one notch has it instead.
        LullabyDebts y = Due.withRow("r1 9;s1 20 9 0;s3 20 9 0;c0 1 0;");
        Due.due("plan(-1)", y.plan(-1), 2);
        Due.due("plan(0)", y.plan(0), Due.NONE);
        Due.due("plan(1)", y.plan(1), 0);
        y.evening(1);
        Due.due("plan(-1) on an odd evening", y.plan(-1), 1);
        Due.due("plan(0) on an odd evening", y.plan(0), 0);
        Due.due("plan(1) on an odd evening", y.plan(1), Due.NONE);
        LullabyDebts none = Due.withRow("r1 1;s0 20 9 0;c0 2 0;");
        Due.due("plan(-1) of one who can't", none.plan(-1), 0);
        Due.due("plan(0) of one who can't", none.plan(0), Due.NONE);
    }

    private static void planOfTheLesserChild() {
        LullabyDebts x = Due.withRow("r1 9;s0 20 9 0;c0 2 0;c0 2 0;c0 1 0;");
        Due.due("like ones", x.plan(0), 0);
        LullabyDebts y = Due.withRow("r1 9;s0 20 9 0;c0 2 0;c0 3 0;c0 3 0;");
        Due.due("the one that pays more", y.plan(0), 1);
        Due.due("plan(-1)", y.plan(-1), 6);
        // The debt bounds what is paid, so that a lesser child does as well.
        LullabyDebts z = Due.withRow("r1 9;s0 20 2 0;c0 2 0;c0 3 0;");
        Due.due("no more than is owed", z.plan(0), 0);
        Due.due("plan(-1)", z.plan(-1), 4);
    }

    /** "no CHILD to two, each that he CAN" */
    private static void planNoChildToTwo() {
        LullabyDebts x = Due.withRow("r9 5;s0 20 9 0;s0 20 9 4;c0 3 2;c0 5 0;");
        Due.due("plan(-1)", x.plan(-1), 16);
        Due.due("plan(0)", x.plan(0), 1);
        Due.due("plan(1)", x.plan(1), 0);
        LullabyDebts y = Due.withRow("r9 5;s0 20 9 0;s0 20 9 5;c0 3 2;c0 5 0;");
        Due.due("plan(-1) when the other can't", y.plan(-1), 10);
        Due.due("plan(0) when the other can't", y.plan(0), 1);
        Due.due("plan(1) when he can't", y.plan(1), Due.NONE);
    }

    /** "s = NONE how much, else the CHILD of a SINGER; NONE. UNKNOWN." */
    private static void planOfTheSixth() {
        LullabyDebts x = Due.withRow("r1 9;" + "s0 20 9 0;".repeat(6) + "c0 1 0;".repeat(6));
        Due.due("plan(-2)", x.plan(-2), Due.UNKNOWN);
        Due.due("plan(-1)", x.plan(-1), 12);
        Due.due("plan(0)", x.plan(0), 0);
        Due.due("plan(5)", x.plan(5), 5);
        Due.due("plan(6)", x.plan(6), Due.UNKNOWN);
        Due.due("plan(least)", x.plan(Integer.MIN_VALUE), Due.UNKNOWN);
        Due.due("plan(greatest)", x.plan(Integer.MAX_VALUE), Due.UNKNOWN);
        // Of six and six the sixth singer can't reach any child, and so leaves the last place in the plan empty.
        LullabyDebts far = Due.withRow("r9 5;" + "s0 20 9 0;".repeat(5) + "s0 20 9 8;" + "c0 1 0;".repeat(6));
        Due.due("plan(4) of six and six", far.plan(4), 4);
        Due.due("plan(5) who can't", far.plan(5), Due.NONE);
        Due.due("plan(-1) of six and six", far.plan(-1), 10);
        LullabyDebts none = new LullabyDebts();
        Due.due("plan(-1) without a ROW", none.plan(-1), 0);
        Due.due("plan(0) without a ROW", none.plan(0), Due.UNKNOWN);
    }

    /** "ASLEEP: the most CHILDREN that can be put down so (one each)" */
    private static void asleepOneEach() {
        for (int singers = 0; singers <= 6; singers++) {
            for (int children = 0; children <= 6; children++) {
                LullabyDebts x = Due.withRow("r1 9;" + "s0 20 9 0;".repeat(singers) + "c0 1 0;".repeat(children));
                Due.due(singers + " singers, " + children + " children", x.told(14), Math.min(singers, children));
            }
        }
        LullabyDebts y = Due.withRow("r1 5;s0 20 9 0;s0 20 0 0;s0 20 9 0;c0 5 0;c0 6 0;c0 5 0;");
        Due.due("two of three can be", y.told(14), 2);
        y.sing(0, 0);
        Due.due("one sleeps, and he has no song left", y.told(14), 1);
        y.sing(2, 2);
        Due.due("none can be", y.told(14), 0);
    }

    /** "the most CHILDREN he can put down alone this EVENING ... SONGS for steps and NEEDS as they are now" */
    private static void roundWithJustEnough() {
        int[] most = {0, 0, 0, 1, 1, 1, 2, 2, 2, 3, 3};
        int[] figures = {0, 0, 0, 1, 1, 1, 12, 12, 12, 123, 123};
        for (int songs = 1; songs <= 10; songs++) {
            LullabyDebts x = Due.withRow("r4 " + songs + ";s0 20 99 0;c0 2 1;c0 2 2;c0 2 3;");
            Due.due("how many with " + songs, x.round(0, 0), most[songs]);
            Due.due("the figures with " + songs, x.round(0, 1), figures[songs]);
        }
        // A bad one that was put down needs no more within the round.
        LullabyDebts y = Due.withRow("r1 4;s0 20 99 0;c3 2 0;c3 2 0;");
        Due.due("two bad ones", y.round(0, 0), 2);
        y.sing(0, 0);
        Due.due("one is left", y.round(0, 1), 2);
        LullabyDebts z = Due.withRow("r1 4;s0 20 99 0;s0 20 99 0;c0 6 0;c0 2 0;");
        Due.due("the lighter", z.round(1, 1), 2);
        z.sing(0, 0);
        Due.due("what was heard counts", z.round(1, 0), 2);
        Due.due("its figures", z.round(1, 1), 12);
    }

    /** "a NOTCH at least owed as he begins each" */
    private static void roundANotchAtLeast() {
        // Off key, three songs to the first: who owes four has one notch left for the second.
        String children = "c0 3 0;c0 3 0;c0 3 0;";
        Due.due("owes none", Due.withRow("r1 30;s1 20 0 0;" + children).round(0, 0), 0);
        Due.due("owes two", Due.withRow("r1 30;s1 20 1 0;" + children).round(0, 0), 1);
        Due.due("owes four", Due.withRow("r1 30;s1 20 2 0;" + children).round(0, 0), 2);
        Due.due("owes six", Due.withRow("r1 30;s1 20 3 0;" + children).round(0, 0), 2);
        Due.due("owes eight", Due.withRow("r1 30;s1 20 4 0;" + children).round(0, 0), 3);
        LullabyDebts x = Due.withRow("r1 30;s1 20 2 0;" + children + "c0 1 0;");
        Due.due("owes four, a light one first", x.round(0, 0), 2);
        Due.due("its figures", x.round(0, 1), 12);
        x.sing(0, 3);
        Due.due("owes three", x.round(0, 0), 1);
        // The order tells, as the heavier pays all.
        LullabyDebts y = Due.withRow("r1 30;s1 20 2 0;c0 4 0;c0 3 0;");
        Due.due("the lighter first", y.round(0, 1), 21);
        Due.due("true ones pay more", Due.withRow("r1 30;s0 20 3 0;" + children).round(0, 0), 1);
    }

    /** "the figures (each 1 more than the CHILD; of like ones the least number; 0: none)" */
    private static void roundOfTheLeastNumber() {
        LullabyDebts x = Due.withRow("r3 4;s0 20 99 1;c0 3 0;c0 3 2;c0 4 1;");
        Due.due("one of three", x.round(0, 0), 1);
        Due.due("the first", x.round(0, 1), 1);
        LullabyDebts y = Due.withRow("r3 4;s0 20 99 1;c0 4 0;c0 4 2;c0 4 1;");
        Due.due("the last alone", y.round(0, 1), 3);
        LullabyDebts z = Due.withRow("r5 8;s0 20 99 2;c0 1 4;c0 1 0;c0 1 3;");
        Due.due("all three are a song too far", z.round(0, 0), 2);
        Due.due("with just enough for the first two", z.round(0, 1), 12);
        LullabyDebts w = Due.withRow("r5 9;s0 20 99 2;c0 1 4;c0 1 0;c0 1 3;");
        Due.due("three", w.round(0, 0), 3);
        Due.due("of 132, 231 and 312 the least, as 123 is too far", w.round(0, 1), 132);
    }

    /** "what = 0 how many, 1 the figures. UNKNOWN, OUTSIDE." */
    private static void roundOfNoneAndAll() {
        LullabyDebts x = Due.withRow("r1 6;" + "s0 20 99 0;".repeat(6) + "c0 1 0;".repeat(6));
        int[] outside = {Integer.MIN_VALUE, -1, 2, Integer.MAX_VALUE};
        for (int what : outside) {
            Due.due("round(5, " + what + ")", x.round(5, what), Due.OUTSIDE);
            Due.due("round(6, " + what + ")", x.round(6, what), Due.UNKNOWN);
            Due.due("round(-1, " + what + ")", x.round(-1, what), Due.UNKNOWN);
        }
        Due.due("round(5, 0)", x.round(5, 0), 6);
        Due.due("round(5, 1)", x.round(5, 1), 123456);
        Due.due("five songs for six", Due.withRow("r1 5;s0 20 99 0;" + "c0 1 0;".repeat(6)).round(0, 1), 12345);
        LullabyDebts free = Due.withRow("r1 6;s0 20 99 0;s0 20 0 0;c0 1 0;");
        Due.due("round(0, 1) of one who owes", free.round(0, 1), 1);
        Due.due("round(1, 1) of one who is FREE, behind it", free.round(1, 1), 0);
        Due.due("round(1, 0) of one who is FREE, behind it", free.round(1, 0), 0);
        LullabyDebts none = Due.withRow("r1 6;s0 20 99 0;");
        Due.due("round(0, 0) of no children", none.round(0, 0), 0);
        Due.due("round(0, 1) of no children", none.round(0, 1), 0);
    }

    /** "NEVER: how many EVENINGS (from this one on) a SINGER must sing till he owes none ... 0: FREE" */
    private static void neverOfAnEvening() {
        int[] owes = {0, 1, 4, 5, 6, 10, 11};
        int[] trueVoice = {0, 1, 1, 1, 2, 2, 3};
        int[] offKey = {0, 1, 2, 2, 3, 4, 5};
        for (int i = 0; i < owes.length; i++) {
            LullabyDebts x = Due.withRow("r1 5;s0 20 " + owes[i] + " 0;s1 20 " + owes[i] + " 0;");
            Due.due("true, owes " + owes[i], x.singer(0, 6), trueVoice[i]);
            Due.due("off key, owes " + owes[i], x.singer(1, 6), offKey[i]);
        }
        LullabyDebts y = Due.withRow("r1 5;s1 20 3 0;c0 1 0;");
        Due.due("six notches by five", y.singer(0, 6), 2);
        y.sing(0, 0);
        Due.due("five notches by five, though four songs are left", y.singer(0, 6), 1);
        Due.due("the most", Due.withRow("r1 1;s1 20 99 0;").singer(0, 6), 198);
        Due.due("the most of a true one", Due.withRow("r1 1;s0 20 99 0;").singer(0, 6), 99);
        Due.due("the least", Due.withRow("r1 30;s0 20 30 0;").singer(0, 6), 1);
        Due.due("one song more", Due.withRow("r1 30;s0 20 31 0;").singer(0, 6), 2);
    }

    /** "3 by the EVENING's number" */
    private static void neverOfABass() {
        int[] owes = {1, 2, 3, 4, 5, 6, 7};
        int[] fromEven = {1, 1, 2, 3, 3, 4, 5};
        int[] fromOdd = {1, 2, 2, 3, 4, 4, 5};
        // Two songs: four notches on even evenings, two on odd ones.
        for (int i = 0; i < owes.length; i++) {
            LullabyDebts x = Due.withRow("r1 2;s3 20 " + owes[i] + " 0;");
            Due.due("from evening 0, owes " + owes[i], x.singer(0, 6), fromEven[i]);
            x.evening(1);
            Due.due("from evening 1, owes " + owes[i], x.singer(0, 6), fromOdd[i]);
            x.evening(1);
            Due.due("from evening 2, owes " + owes[i], x.singer(0, 6), fromEven[i]);
        }
        Due.due("the most", Due.withRow("r1 1;s3 20 99 0;").singer(0, 6), 132);
    }

    /** "2 always 2" */
    private static void neverOfAWidower() {
        LullabyDebts x = Due.withRow("r1 5;s2 20 5 0;s2 20 6 0;c0 1 0;");
        Due.due("at home with the child", x.singer(0, 6), 1);
        Due.due("one song more", x.singer(1, 6), 2);
    }

    /** "for whom these are more EVENINGS than end from now on till they are 50" */
    private static void willDefaultByOneEvening() {
        // One song of one notch each evening: who is 49 has four evenings to go, then three, two, one.
        LullabyDebts x = Due.withRow("r1 1;s1 49 1 0;s1 49 2 0;s1 49 3 0;s1 48 4 0;s1 48 5 0;c0 1 0;");
        int[] will = {0b10100, 0b11110, 0b11110, 0b11111};
        for (int evening = 0; evening < 4; evening++) {
            Due.due("will default in evening " + evening, x.told(15), will[evening]);
            x.evening(1);
        }
        Due.due("those of 49 then", x.told(15), 0b11000);
        Due.due("in default", x.told(8), 0b00111);
        LullabyDebts y = Due.withRow("r1 1;s1 49 1 0;c0 1 0;");
        y.evening(3);
        Due.due("two notches by one evening", y.told(15), 1);
        y.sing(0, 0);
        Due.due("one notch by one evening", y.told(15), 0);
        LullabyDebts z = Due.withRow("r1 1;s1 1 98 0;s1 1 99 0;s1 2 98 0;s1 2 96 0;");
        Due.due("196 evenings of the youngest", z.told(15), 0b0110);
        z.evening(1);
        Due.due("195 evenings", z.told(15), 0b1111);
    }

    /** "SINGERS (a SET) not yet 50" */
    private static void willDefaultNotYetFifty() {
        LullabyDebts x = Due.withRow("r1 1;s1 49 99 0;s1 50 99 0;s1 51 99 0;s1 60 99 0;s1 49 0 0;");
        Due.due("at first", x.told(15), 0b00001);
        x.evening(3);
        Due.due("in evening 3", x.told(15), 0b00001);
        x.evening(1);
        Due.due("in evening 4", x.told(15), 0);
        Due.due("in default", x.told(8), 0b00001);
    }

    /** "LAST: the SINGER who owes most; of like ones the least; NONE: all are FREE" */
    private static void last() {
        Due.due("like ones", Due.withRow("r1 1;s0 1 5 0;s0 1 5 0;").told(11), 0);
        Due.due("more by one", Due.withRow("r1 1;s0 1 5 0;s0 1 6 0;s0 1 6 0;").told(11), 1);
        Due.due("the sixth", Due.withRow("r1 1;" + "s0 1 5 0;".repeat(5) + "s0 1 6 0;").told(11), 5);
        Due.due("all are FREE", Due.withRow("r1 1;s0 1 0 0;s0 1 0 0;").told(11), Due.NONE);
        Due.due("there are none", Due.withRow("r1 1;c0 1 0;").told(11), Due.NONE);
        LullabyDebts x = Due.withRow("r1 1;s0 1 0 0;s1 1 1 0;c0 1 0;");
        x.sing(1, 0);
        Due.due("one notch", x.told(11), 1);
        x.evening(1);
        x.sing(1, 0);
        Due.due("no notch", x.told(11), Due.NONE);
    }

    /** "HARDEST: the CHILD that NEEDS most (0, if asleep); of like ones the least; NONE: there are none" */
    private static void hardest() {
        Due.due("like ones", Due.withRow("r1 1;c0 5 0;c0 5 0;").told(12), 0);
        Due.due("more by one", Due.withRow("r1 1;c0 5 0;c0 6 0;c0 6 0;").told(12), 1);
        Due.due("by what it needs", Due.withRow("r1 1;c0 7 0;c1 4 0;c2 13 0;c3 7 0;").told(12), 1);
        Due.due("the sixth", Due.withRow("r1 1;" + "c0 5 0;".repeat(5) + "c0 6 0;").told(12), 5);
        Due.due("there are none", Due.withRow("r1 1;s0 1 1 0;").told(12), Due.NONE);
        LullabyDebts x = Due.withRow("r1 9;s0 1 99 0;s0 1 99 0;c0 6 0;c0 1 0;c0 2 0;");
        Due.due("all awake", x.told(12), 0);
        x.sing(0, 0);
        Due.due("the hardest asleep", x.told(12), 2);
        x.sing(0, 2);
        Due.due("the next asleep", x.told(12), 1);
        x.sing(0, 1);
        Due.due("all asleep", x.told(12), 0);
        LullabyDebts y = Due.withRow("r1 3;s0 1 99 0;c0 6 0;c0 4 0;");
        y.sing(0, 0);
        Due.due("less what it heard", y.told(12), 1);
    }

    /** "SPREAD: the farthest two CHILDREN lie from one another, in steps" */
    private static void spread() {
        Due.due("of none", Due.withRow("r20 9;").told(13), 0);
        Due.due("of one", Due.withRow("r20 9;c0 1 19;").told(13), 0);
        Due.due("of one in the first house", Due.withRow("r20 9;c0 1 0;").told(13), 0);
        Due.due("of two in one house", Due.withRow("r20 9;c0 1 7;c0 1 7;").told(13), 0);
        Due.due("of two beside one another", Due.withRow("r20 9;c0 1 8;c0 1 7;").told(13), 1);
        Due.due("of all", Due.withRow("r20 9;c0 1 19;c0 1 7;c0 1 0;").told(13), 19);
        LullabyDebts x = Due.withRow("r20 9;s0 1 9 17;c0 1 7;c0 1 18;");
        x.carry(1, 1);
        Due.due("carried", x.told(13), 12);
        x.go(0, 19);
        x.sing(0, 1);
        Due.due("asleep", x.told(13), 12);
    }

    /** "odds that none of n CHILDREN (0 .. 60) has colic, each by q of a hundred without (0 .. 100)"; "OUTSIDE" */
    private static void colicBounds() {
        LullabyDebts x = new LullabyDebts();
        int[] outsideN = {Integer.MIN_VALUE, -1, 61, 62, Integer.MAX_VALUE};
        int[] outsideQ = {Integer.MIN_VALUE, -1, 101, 102, Integer.MAX_VALUE};
        for (int n : outsideN) {
            Due.due("colic(" + n + ", 50)", x.colic(n, 50), Due.OUTSIDE);
        }
        for (int q : outsideQ) {
            Due.due("colic(0, " + q + ")", x.colic(0, q), Due.OUTSIDE);
            Due.due("colic(30, " + q + ")", x.colic(30, q), Due.OUTSIDE);
        }
        Due.due("colic(-1, 101)", x.colic(-1, 101), Due.OUTSIDE);
        Due.due("colic(0, 0)", x.colic(0, 0), 1000000000);
        Due.due("colic(1, 0)", x.colic(1, 0), 0);
        Due.due("colic(60, 0)", x.colic(60, 0), 0);
        Due.due("colic(0, 100)", x.colic(0, 100), 1000000000);
        Due.due("colic(59, 100)", x.colic(59, 100), 1000000000);
        Due.due("colic(60, 100)", x.colic(60, 100), 1000000000);
        Due.due("colic(1, 1)", x.colic(1, 1), 10000000);
        Due.due("colic(1, 99)", x.colic(1, 99), 990000000);
    }

    /** "a BILLION times q / 100 each (cut)" */
    private static void colicIsCut() {
        LullabyDebts x = new LullabyDebts();
        Due.due("colic(4, 1)", x.colic(4, 1), 10);
        Due.due("colic(5, 1)", x.colic(5, 1), 0);
        Due.due("colic(9, 50)", x.colic(9, 50), 1953125);
        Due.due("colic(10, 50): 976562.5", x.colic(10, 50), 976562);
        Due.due("colic(11, 50): 488281", x.colic(11, 50), 488281);
        Due.due("colic(12, 50): 244140.5", x.colic(12, 50), 244140);
        Due.due("colic(29, 50)", x.colic(29, 50), 1);
        Due.due("colic(30, 50)", x.colic(30, 50), 0);
        Due.due("colic(59, 99)", x.colic(59, 99), 552683455);
        Due.due("colic(60, 99)", x.colic(60, 99), 547156620);
    }
}
