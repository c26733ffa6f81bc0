/** Promises 1 to 7: a new object, feed, row, fault, told, singer, child. */
public final class RowTest {
    public static void main(String[] args) {
        newObject();
        feedBounds();
        goodTexts();
        misplaced();
        badNumbers();
        tooMany();
        faultLeavesAllAsItWas();
        emptyTextIsNoRow();
        rowBeginsAnew();
        toldOfARow();
        singerAndChild();
        Due.end("RowTest");
    }

    private static void newObject() {
        LullabyDebts x = new LullabyDebts();
        Due.dueTold("new", x, 0, 0, 0, 0, 0, 0, 0, 0, 0, 0, 0, Due.NONE, Due.NONE, 0, 0, 0, 0, 0, 0);
        Due.due("fault()", x.fault(), Due.NONE);
        Due.due("singer(0, 0)", x.singer(0, 0), Due.UNKNOWN);
        Due.due("child(0, 0)", x.child(0, 0), Due.UNKNOWN);
        Due.due("go(0, 0)", x.go(0, 0), Due.UNKNOWN);
        Due.due("sing(0, 0)", x.sing(0, 0), Due.UNKNOWN);
        Due.due("carry(0, 1)", x.carry(0, 1), Due.UNKNOWN);
        Due.due("evening(1)", x.evening(1), Due.NOT);
        Due.due("evening(0)", x.evening(0), Due.OUTSIDE);
        Due.due("drift(1)", x.drift(1), Due.NOT);
        Due.due("drift(21)", x.drift(21), Due.OUTSIDE);
        Due.due("undo(1)", x.undo(1), Due.NOT);
        Due.due("steps(0, 0)", x.steps(0, 0), Due.UNKNOWN);
        Due.due("plan(-1)", x.plan(-1), 0);
        Due.due("plan(0)", x.plan(0), Due.UNKNOWN);
        Due.due("round(0, 0)", x.round(0, 0), Due.UNKNOWN);
        Due.due("couldBe()", x.couldBe(), 0);
        Due.due("ask()", x.ask(), Due.NONE);
        Due.due("judge()", x.judge(), Due.NONE);
        Due.due("tear()", x.tear(), 0);
        Due.due("seed(5)", x.seed(5), 0);
        Due.due("goBack(0)", x.goBack(0), Due.NOT);
    }

    private static void feedBounds() {
        LullabyDebts x = new LullabyDebts();
        Due.due("feed(-1)", x.feed(-1), Due.OUTSIDE);
        Due.due("feed(256)", x.feed(256), Due.OUTSIDE);
        Due.due("feed(least)", x.feed(Integer.MIN_VALUE), Due.OUTSIDE);
        for (int i = 1; i <= 240; i++) {
            Due.due("feed of letter " + i, x.feed(i % 2 == 0 ? 0 : 255), i);
        }
        Due.due("feed(32) of 241", x.feed(32), Due.FULL);
        Due.due("feed(256) of 241", x.feed(256), Due.OUTSIDE);
        Due.due("told(4)", x.told(4), 240);
        Due.due("row()", x.row(), -11);
        Due.due("fault()", x.fault(), 0);
        Due.due("feed(32) anew", x.feed(32), 1);
    }

    private static void goodTexts() {
        LullabyDebts x = new LullabyDebts();
        Due.dueRow(x, "r1 1;", 0, Due.NONE);
        Due.dueRow(x, "  r 020  030 ; s 3 60 99 19 ;c3 20 019; ", 1, Due.NONE);
        Due.dueTold("wide", x, 20, 30, 1, 1);
        Due.dueSinger("wide", x, 0, 3, 60, 198, 19, 30, 19);
        Due.dueChild("wide", x, 0, 3, 20, 19, 1, 0, 0, 20);
        Due.dueRow(x, "r1 1;s0 1 0 0;c0 1 0;c0 1 0;", 1, Due.NONE);
        Due.dueTold("mixed", x, 1, 1, 1, 2);
        Due.dueRow(x, "r1 1;" + "s0 1 0 0;".repeat(6) + "c0 1 0;".repeat(6), 6, Due.NONE);
        Due.dueTold("full", x, 1, 1, 6, 6);
        Due.dueRow(x, "r1 1;c0 1 0;s000 001 000 000;c0 1 0;s0 1 0 0;", 2, Due.NONE);
        Due.dueRow(x, "r1 1;x", -11, 5);
        Due.dueRow(x, "r1 1;", 0, Due.NONE);
    }

    private static void misplaced() {
        LullabyDebts x = new LullabyDebts();
        Due.dueRow(x, "x", -11, 0);
        Due.dueRow(x, "  c0 1 0;", -11, 2);
        Due.dueRow(x, "s", -11, 0);
        Due.dueRow(x, ";", -11, 0);
        Due.dueRow(x, "7", -11, 0);
        Due.dueRow(x, "R1 1;", -11, 0);
        Due.dueRow(x, "r", -11, 1);
        Due.dueRow(x, "r  ", -11, 3);
        Due.dueRow(x, "r1", -11, 2);
        Due.dueRow(x, "r1 1", -11, 4);
        Due.dueRow(x, "r12;", -11, 3);
        Due.dueRow(x, "r1 1 1;", -11, 5);
        Due.dueRow(x, "r1 1 9999;", -11, 5);
        Due.dueRow(x, "r1 1;;", -11, 5);
        Due.dueRow(x, "r1 1;1", -11, 5);
        Due.dueRow(x, "r1 r1;", -11, 3);
        Due.dueRow(x, "r-1 1;", -11, 1);
        Due.dueRow(x, "r1\t1;", -11, 2);
        Due.dueRow(x, "r1 1;s0 1 0;", -11, 11);
        Due.dueRow(x, "r1 1;s0 1 0 0 0;", -11, 14);
        Due.dueRow(x, "r1 1;c0 1;", -11, 9);
        Due.dueRow(x, "r1 1;c0 1 0", -11, 11);
        Due.dueRow(x, "r1 1;c0 1 0s", -11, 11);
        Due.dueRow(x, "r1 1;" + (char) 160, -11, 5);
        Due.dueRow(x, "r1 1;" + "s0 1 0 0;".repeat(6) + "ss", -13, 59);
    }

    private static void badNumbers() {
        LullabyDebts x = new LullabyDebts();
        Due.dueRow(x, "r0 1;", -12, 1);
        Due.dueRow(x, "r 21 1;", -12, 2);
        Due.dueRow(x, "r1 0;", -12, 3);
        Due.dueRow(x, "r1 31;", -12, 3);
        Due.dueRow(x, "r0001 1;", -12, 1);
        Due.dueRow(x, "r4294967297 1;", -12, 1);
        Due.dueRow(x, "r0", -12, 1);
        Due.dueRow(x, "r99x", -12, 1);
        Due.dueRow(x, "r1 1;s4 1 0 0;", -12, 6);
        Due.dueRow(x, "r1 1;s0 0 0 0;", -12, 8);
        Due.dueRow(x, "r1 1;s0 61 0 0;", -12, 8);
        Due.dueRow(x, "r1 1;s0 1 100 0;", -12, 10);
        Due.dueRow(x, "r1 1;s0 1 0 1;", -12, 12);
        Due.dueRow(x, "r1 1;c4 1 0;", -12, 6);
        Due.dueRow(x, "r1 1;c0 0 0;", -12, 8);
        Due.dueRow(x, "r1 1;c0 21 0;", -12, 8);
        Due.dueRow(x, "r9 1;c0 1 9;", -12, 10);
        Due.dueRow(x, "r9 1;c0 1 0008;", -12, 10);
    }

    private static void tooMany() {
        LullabyDebts x = new LullabyDebts();
        Due.dueRow(x, "r1 1; r", -13, 6);
        Due.dueRow(x, "r1 1;" + "s0 1 0 0;".repeat(7), -13, 59);
        Due.dueRow(x, "r1 1;" + "c0 1 0;".repeat(7), -13, 47);
        Due.dueRow(x, "r1 1;" + "c0 1 0;".repeat(6) + "s0 1 0 0;c", -13, 56);
    }

    private static void faultLeavesAllAsItWas() {
        LullabyDebts x = Due.withRow("r3 5;s0 40 3 1;c0 2 1;");
        x.seed(77);
        x.keep(0);
        x.sing(0, 0);
        x.evening(1);
        x.owed(1, true);
        x.write(0, 2);
        Due.dueRow(x, "r9 9;s1 5 5 5;s1 5 5 5;c1 1 9;", -12, 28);
        Due.dueTold("behind a fault", x, 3, 5, 1, 1, 0, 1, 1, 0, 0, 0, 2, 0, 0, 0, 1, 0, 1, 1, 2);
        Due.due("judge()", x.judge(), Due.NONE);
        Due.due("undo(2)", x.undo(2), 0);
        Due.due("goBack(0)", x.goBack(0), 1);
        Due.due("seed(0)", x.seed(0), 77);
    }

    private static void emptyTextIsNoRow() {
        LullabyDebts x = Due.withRow("r3 5;s0 40 3 1;c0 2 1;");
        x.evening(3);
        x.keep(1);
        x.owed(1, true);
        Due.dueRow(x, "", 0, Due.NONE);
        Due.dueTold("empty", x, 0, 0, 0, 0, 0, 0, 0, 0, 0, 0, 0, Due.NONE, Due.NONE, 0, 0, 0, 0, 0, 0);
        Due.due("evening(1)", x.evening(1), Due.NOT);
        Due.due("drift(1)", x.drift(1), Due.NOT);
        Due.due("singer(0, 0)", x.singer(0, 0), Due.UNKNOWN);
        Due.due("goBack(1)", x.goBack(1), Due.NOT);
        Due.dueRow(x, "r2 2;", 0, Due.NONE);
        Due.dueRow(x, "   ", 0, Due.NONE);
        Due.due("told(0) of blanks", x.told(0), 0);
        Due.dueRow(x, "r4 4;s0 1 1 1;c0 1 1;", 1, Due.NONE);
        Due.dueRow(x, "r3 3;s0 1 1 1;c0 1 1;", 1, Due.NONE);
        Due.dueRow(x, " ", 0, Due.NONE);
        Due.dueTold("empty behind two", x, 0, 0, 0, 0, 0, 0, 0);
    }

    private static void rowBeginsAnew() {
        LullabyDebts x = Due.withRow("r3 5;s1 49 50 1;s0 9 1 0;c3 9 1;c0 1 0;");
        x.seed(4);
        x.sing(0, 0);
        x.sing(1, 1);
        x.carry(0, 1);
        x.evening(4);
        x.keep(0);
        x.evening(1);
        x.owed(3, false);
        x.write(1, 5);
        Due.due("told(8) ahead", x.told(8), 1);
        Due.due("told(9) ahead", x.told(9), 1);
        Due.dueRow(x, "r3 5;s1 49 50 1;s0 9 1 0;c3 9 1;c0 1 0;", 2, Due.NONE);
        Due.dueTold("anew", x, 3, 5, 2, 2, 0, 0, 3, 0, 0, 0, 102, 0, 0, 1, 1, 1, 0, 0, 0);
        Due.dueSinger("anew", x, 0, 1, 49, 100, 1, 5, 1, 20);
        Due.dueChild("anew", x, 0, 3, 9, 1, 1, 0, 0, 9);
        Due.dueChild("anew", x, 1, 0, 1, 0, 1, 0, 0, 1);
        Due.due("undo(1)", x.undo(1), Due.NOT);
        Due.due("goBack(0)", x.goBack(0), Due.NOT);
        Due.due("seed stays", x.seed(0), 4);
    }

    private static void toldOfARow() {
        LullabyDebts x = Due.withRow("r9 20;s0 48 10 2;s1 30 7 5;s2 49 3 0;s3 60 0 8;c0 5 2;c1 4 6;c2 9 0;c3 2 8;");
        Due.dueTold("as told", x, 9, 20, 4, 4, 0, 0, 15, 8, 0, 0, 40, 0, 1, 8, 3, 0, 0, 0, 0);
        Due.due("told(-1)", x.told(-1), Due.OUTSIDE);
        Due.due("told(19)", x.told(19), Due.OUTSIDE);
        Due.due("told(greatest)", x.told(Integer.MAX_VALUE), Due.OUTSIDE);
        x.feed('r');
        x.feed('x');
        x.sing(0, 0);
        x.owed(1, true);
        x.owed(2, true);
        x.write(0, 1);
        Due.dueTold("later", x, 9, 20, 4, 4, 2, 0, 14, 8, 0, 0, 30, 1, 1, 8, 3, 0, 2, 1, 1);
    }

    private static void singerAndChild() {
        LullabyDebts x = Due.withRow("r9 20;s2 48 10 2;s1 30 7 5;c2 9 2;c3 2 8;");
        Due.dueSinger("as told", x, 0, 2, 48, 20, 2, 20, 2, 1, Due.OUTSIDE);
        Due.dueSinger("as told", x, 1, 1, 30, 14, 5, 20, 5, 1, Due.OUTSIDE);
        Due.dueChild("as told", x, 0, 2, 9, 2, 1, 0, 0, 5, Due.OUTSIDE);
        Due.dueChild("as told", x, 1, 3, 2, 8, 1, 0, 0, 2, Due.OUTSIDE);
        Due.due("singer(0, -1)", x.singer(0, -1), Due.OUTSIDE);
        Due.due("singer(-1, -1)", x.singer(-1, -1), Due.UNKNOWN);
        Due.due("singer(2, 9)", x.singer(2, 9), Due.UNKNOWN);
        Due.due("singer(6, 0)", x.singer(6, 0), Due.UNKNOWN);
        Due.due("child(0, -1)", x.child(0, -1), Due.OUTSIDE);
        Due.due("child(-1, -1)", x.child(-1, -1), Due.UNKNOWN);
        Due.due("child(2, 9)", x.child(2, 9), Due.UNKNOWN);
        Due.due("go(1, 8)", x.go(1, 8), 17);
        Due.due("sing(1, 1)", x.sing(1, 1), 2);
        Due.dueSinger("later", x, 1, 1, 30, 12, 8, 15, 5, 1);
        Due.dueChild("asleep", x, 1, 3, 2, 8, 0, 2, 1, 0);
    }
}
