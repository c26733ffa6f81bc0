/** Promises 20 to 25: owed, couldBe, ask, write, judge, tear. */
public final class OwedTest {
    private static final String ROW = "r9 20;s0 48 10 2;s1 30 7 5;s2 49 3 0;s3 60 0 8;c0 5 2;";

    public static void main(String[] args) {
        owedBounds();
        couldBe();
        asks();
        askParts();
        followsWhatIsOwedNow();
        bookBounds();
        judges();
        tears();
        Due.end("OwedTest");
    }

    private static void owedBounds() {
        LullabyDebts x = new LullabyDebts();
        Due.due("owed(-1)", x.owed(-1, true), Due.OUTSIDE);
        Due.due("owed(199)", x.owed(199, false), Due.OUTSIDE);
        for (int i = 1; i <= 6; i++) {
            Due.due("owed, the " + i, x.owed(i % 2 == 0 ? 0 : 198, i % 2 == 0), i);
        }
        Due.due("owed, one more", x.owed(5, true), Due.FULL);
        Due.due("owed(199) when full", x.owed(199, true), Due.OUTSIDE);
        Due.due("told(16)", x.told(16), 6);
        Due.due("tear()", x.tear(), 6);
        Due.due("owed anew", x.owed(5, true), 1);
    }

    private static void couldBe() {
        LullabyDebts x = Due.withRow(ROW);
        Due.due("all", x.couldBe(), 15);
        x.owed(6, true);
        Due.due("6 or more", x.couldBe(), 7);
        x.owed(20, false);
        Due.due("less than 20", x.couldBe(), 6);
        x.owed(7, true);
        Due.due("7 or more", x.couldBe(), 2);
        x.owed(0, true);
        Due.due("0 or more", x.couldBe(), 2);
        x.owed(0, false);
        Due.due("less than 0", x.couldBe(), 0);
    }

    private static void asks() {
        LullabyDebts x = Due.withRow(ROW);
        Due.due("ask() of 20, 14, 6, 0", x.ask(), 7);
        x.owed(14, true);
        Due.due("ask() of 20, 14", x.ask(), 15);
        x.owed(20, false);
        Due.due("ask() of one", x.ask(), Due.NONE);
        x.owed(198, true);
        Due.due("ask() of none", x.ask(), Due.NONE);
    }

    private static void askParts() {
        Due.due("like ones", Due.withRow("r1 1;s0 1 5 0;s0 1 5 0;").ask(), Due.NONE);
        Due.due("one apart", Due.withRow("r1 1;s0 1 5 0;s0 1 5 0;s0 1 0 0;").ask(), 1);
        Due.due("the far one", Due.withRow("r1 1;s0 1 99 0;s0 1 98 0;").ask(), 197);
        LullabyDebts x = Due.withRow("r1 1;s1 1 99 0;s1 1 99 0;c0 1 0;");
        x.sing(0, 0);
        Due.due("198 and 197", x.ask(), 198);
        LullabyDebts y = Due.withRow("r1 1;s0 1 50 0;s0 1 8 0;s0 1 7 0;s0 1 6 0;s0 1 5 0;s0 1 0 0;");
        Due.due("six", y.ask(), 13);
        y.owed(20, false);
        Due.due("less than 20", y.ask(), 11);
        y.owed(1, true);
        Due.due("more than none", y.ask(), 13);
        LullabyDebts z = Due.withRow("r1 1;s0 1 0 0;s0 1 5 0;s0 1 6 0;s0 1 7 0;s0 1 8 0;s0 1 50 0;");
        Due.due("six the other way", z.ask(), 13);
        Due.due("three", Due.withRow("r1 1;s0 1 9 0;s0 1 4 0;s0 1 1 0;").ask(), 3);
        Due.due("two against three", Due.withRow("r1 1;s0 1 9 0;s0 1 9 0;s0 1 4 0;s0 1 1 0;s0 1 1 0;").ask(), 3);
    }

    private static void followsWhatIsOwedNow() {
        LullabyDebts x = Due.withRow(ROW);
        x.owed(11, true);
        x.write(0, 20);
        Due.due("ahead", x.couldBe(), 3);
        Due.due("judge() ahead", x.judge(), Due.NONE);
        x.sing(0, 0);
        Due.due("singer 0 owes", x.singer(0, 2), 10);
        Due.due("behind", x.couldBe(), 2);
        Due.due("judge() behind", x.judge(), 0);
        x.undo(1);
        Due.due("undone", x.couldBe(), 3);
        Due.due("judge() undone", x.judge(), Due.NONE);
    }

    private static void bookBounds() {
        LullabyDebts x = Due.withRow(ROW);
        Due.due("write(4, 0)", x.write(4, 0), Due.UNKNOWN);
        Due.due("write(-1, 999)", x.write(-1, 999), Due.UNKNOWN);
        Due.due("write(0, -1)", x.write(0, -1), Due.OUTSIDE);
        Due.due("write(0, 199)", x.write(0, 199), Due.OUTSIDE);
        for (int i = 1; i <= 20; i++) {
            Due.due("write, the " + i, x.write(3, i == 20 ? 198 : 0), i);
        }
        Due.due("write, one more", x.write(0, 20), Due.FULL);
        Due.due("write(0, 199) when full", x.write(0, 199), Due.OUTSIDE);
        Due.due("write(4, 0) when full", x.write(4, 0), Due.UNKNOWN);
        Due.due("told(17)", x.told(17), 20);
        Due.due("judge()", x.judge(), 19);
    }

    private static void judges() {
        LullabyDebts x = Due.withRow(ROW);
        Due.due("judge() of no book", x.judge(), Due.NONE);
        x.write(2, 6);
        x.write(2, 6);
        x.write(0, 20);
        Due.due("judge() of a true one", x.judge(), Due.NONE);
        x.write(0, 19);
        x.write(1, 13);
        Due.due("judge(): the entry's number, not the singer's", x.judge(), 3);
    }

    private static void tears() {
        LullabyDebts x = Due.withRow(ROW);
        x.owed(9, true);
        x.owed(9, false);
        x.write(0, 3);
        Due.due("couldBe()", x.couldBe(), 0);
        Due.due("tear()", x.tear(), 3);
        Due.due("couldBe()", x.couldBe(), 15);
        Due.due("judge()", x.judge(), Due.NONE);
        Due.due("told(16)", x.told(16), 0);
        Due.due("told(17)", x.told(17), 0);
        Due.due("tear() again", x.tear(), 0);
    }
}
