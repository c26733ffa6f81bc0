/** Promises 20 to 25, 27 and 28: each sentence that names a bound, inside it, on it and outside it. */
public final class EdgeOwedTest {
    public static void main(String[] args) {
        notchesThatAreOwed();
        sixThatAreOwed();
        orMoreOrLess();
        theLeastAndTheMost();
        couldBeWithoutSingers();
        askFromOne();
        askTo198();
        askOfNone();
        askTheLeast();
        askTheLeastGreaterPart();
        notchesInTheBook();
        twentyEntries();
        firstThatIsOtherwise();
        otherwiseByOne();
        tearsBoth();
        rowTearsBoth();
        imagesThatThereAre();
        imageKeepsAll();
        imagesGoWithTheRow();
        Due.end("EdgeOwedTest");
    }

    /** "told to owe v NOTCHES (0 .. 198) or more now, or less"; "OUTSIDE" */
    private static void notchesThatAreOwed() {
        LullabyDebts x = Due.withRow("r1 1;s0 1 9 0;");
        int[] outside = {Integer.MIN_VALUE, -1, 199, 200, Integer.MAX_VALUE};
        int[] inside = {0, 1, 197, 198};
        for (int v : outside) {
            Due.due("owed(" + v + ", true)", x.owed(v, true), Due.OUTSIDE);
            Due.due("owed(" + v + ", false)", x.owed(v, false), Due.OUTSIDE);
        }
        Due.due("told(16)", x.told(16), 0);
        Due.due("couldBe()", x.couldBe(), 1);
        for (int i = 0; i < inside.length; i++) {
            Due.due("owed(" + inside[i] + ", true)", x.owed(inside[i], i % 2 == 0), i + 1);
        }
    }

    /** "OWED (6 at most)"; "FULL (6)" */
    private static void sixThatAreOwed() {
        LullabyDebts x = Due.withRow("r1 1;s0 1 9 0;s0 1 8 0;");
        for (int i = 1; i <= 5; i++) {
            Due.due("owed(0, true), the " + i, x.owed(0, true), i);
        }
        Due.due("couldBe() of five", x.couldBe(), 3);
        Due.due("the sixth", x.owed(17, true), 6);
        Due.due("couldBe() of six", x.couldBe(), 1);
        Due.due("the seventh", x.owed(0, false), Due.FULL);
        Due.due("told(16)", x.told(16), 6);
        Due.due("couldBe() as it was", x.couldBe(), 1);
        Due.due("owed(199, true), as it is FULL", x.owed(199, true), Due.OUTSIDE);
        Due.due("owed(-1, true), as it is FULL", x.owed(-1, true), Due.OUTSIDE);
        x.tear();
        Due.due("the first again", x.owed(0, false), 1);
    }

    /** "v or more: is, or less" */
    private static void orMoreOrLess() {
        for (int v = 19; v <= 21; v++) {
            LullabyDebts more = Due.withRow("r1 1;s0 1 10 0;");
            more.owed(v, true);
            Due.due("20 is " + v + " or more", more.couldBe(), v <= 20 ? 1 : 0);
            LullabyDebts less = Due.withRow("r1 1;s0 1 10 0;");
            less.owed(v, false);
            Due.due("20 is less than " + v, less.couldBe(), v <= 20 ? 0 : 1);
        }
    }

    /** Singers who owe 0, 1, 197 and 198. */
    private static LullabyDebts atTheEnds() {
        LullabyDebts x = Due.withRow("r1 1;s0 1 0 0;s1 1 1 0;s1 1 99 0;s0 1 99 0;c0 2 0;");
        x.sing(1, 0);
        x.sing(2, 0);
        Due.due("owes 1", x.singer(1, 2), 1);
        Due.due("owes 197", x.singer(2, 2), 197);
        return x;
    }

    private static void theLeastAndTheMost() {
        int[] v = {0, 1, 2, 197, 198};
        int[] more = {0b1111, 0b1110, 0b1100, 0b1100, 0b1000};
        for (int i = 0; i < v.length; i++) {
            LullabyDebts x = atTheEnds();
            x.owed(v[i], true);
            Due.due(v[i] + " or more", x.couldBe(), more[i]);
            x.tear();
            x.owed(v[i], false);
            Due.due("less than " + v[i], x.couldBe(), 0b1111 & ~more[i]);
        }
    }

    private static void couldBeWithoutSingers() {
        LullabyDebts x = new LullabyDebts();
        Due.due("couldBe() without a ROW", x.couldBe(), 0);
        Due.due("owed(0, true) without a ROW", x.owed(0, true), 1);
        Due.due("couldBe() without a ROW", x.couldBe(), 0);
        Due.due("ask() without a ROW", x.ask(), Due.NONE);
        Due.due("couldBe() of six", Due.withRow("r1 1;" + "s0 1 9 0;".repeat(6)).couldBe(), 63);
    }

    /** "ASK: the v (1 .. 198) by which these are told apart best" */
    private static void askFromOne() {
        LullabyDebts x = atTheEnds();
        x.owed(2, false);
        Due.due("of 0 and 1", x.ask(), 1);
    }

    private static void askTo198() {
        LullabyDebts x = atTheEnds();
        x.owed(197, true);
        Due.due("of 197 and 198", x.ask(), 198);
        LullabyDebts y = atTheEnds();
        Due.due("of 0, 1, 197 and 198", y.ask(), 2);
        y.owed(1, true);
        y.owed(198, false);
        Due.due("of 1 and 197", y.ask(), 2);
    }

    /** "NONE: none parts them" */
    private static void askOfNone() {
        LullabyDebts x = atTheEnds();
        x.owed(198, true);
        Due.due("of one", x.ask(), Due.NONE);
        x.owed(198, false);
        Due.due("of none", x.ask(), Due.NONE);
        Due.due("of like ones", Due.withRow("r1 1;" + "s0 1 9 0;".repeat(6)).ask(), Due.NONE);
        Due.due("of FREE ones", Due.withRow("r1 1;s0 1 0 0;s0 1 0 0;").ask(), Due.NONE);
        Due.due("of those who owe most", Due.withRow("r1 1;s0 1 99 0;s0 1 99 0;").ask(), Due.NONE);
        Due.due("of no singers", Due.withRow("r1 1;").ask(), Due.NONE);
    }

    /** "of like ones the least" */
    private static void askTheLeast() {
        Due.due("of 10 and 20", Due.withRow("r1 1;s0 1 10 0;s0 1 5 0;").ask(), 11);
        Due.due("of 0, 10 and 20", Due.withRow("r1 1;s0 1 10 0;s0 1 5 0;s0 1 0 0;").ask(), 1);
        Due.due("of 0, 2 and 198", Due.withRow("r1 1;s0 1 99 0;s0 1 1 0;s0 1 0 0;").ask(), 1);
    }

    /** "the greater part is least" */
    private static void askTheLeastGreaterPart() {
        Due.due("one and three", Due.withRow("r1 1;s0 1 0 0;s0 1 9 0;s0 1 9 0;s0 1 9 0;").ask(), 1);
        Due.due("three and one", Due.withRow("r1 1;s0 1 0 0;s0 1 0 0;s0 1 0 0;s0 1 9 0;").ask(), 1);
        Due.due("two and two", Due.withRow("r1 1;s0 1 0 0;s0 1 3 0;s0 1 9 0;s0 1 9 0;").ask(), 7);
        Due.due("three and three", Due.withRow("r1 1;s0 1 1 0;s0 1 2 0;s0 1 3 0;s0 1 4 0;s0 1 5 0;s0 1 6 0;").ask(), 7);
        Due.due("four and two", Due.withRow("r1 1;s0 1 1 0;s0 1 3 0;s0 1 3 0;s0 1 3 0;s0 1 3 0;s0 1 6 0;").ask(), 3);
        Due.due("two and four", Due.withRow("r1 1;s0 1 1 0;s0 1 3 0;s0 1 3 0;s0 1 3 0;s0 1 6 0;s0 1 6 0;").ask(), 7);
    }

    /** "An entry behind THE BOOK (0 .. 198): how many. UNKNOWN, OUTSIDE" */
    private static void notchesInTheBook() {
        LullabyDebts x = Due.withRow("r1 1;s0 1 9 0;s0 1 9 0;");
        int[] outside = {Integer.MIN_VALUE, -1, 199, 200, Integer.MAX_VALUE};
        int[] inside = {0, 1, 197, 198};
        int[] nobody = {Integer.MIN_VALUE, -1, 2, 6, Integer.MAX_VALUE};
        for (int notches : outside) {
            Due.due("write(1, " + notches + ")", x.write(1, notches), Due.OUTSIDE);
        }
        for (int s : nobody) {
            Due.due("write(" + s + ", 18)", x.write(s, 18), Due.UNKNOWN);
            Due.due("write(" + s + ", 199)", x.write(s, 199), Due.UNKNOWN);
        }
        Due.due("told(17)", x.told(17), 0);
        Due.due("judge()", x.judge(), Due.NONE);
        for (int i = 0; i < inside.length; i++) {
            Due.due("write(1, " + inside[i] + ")", x.write(1, inside[i]), i + 1);
        }
        Due.due("write without a ROW", new LullabyDebts().write(0, 0), Due.UNKNOWN);
    }

    /** "THE BOOK (20 at most)"; "FULL (20)" */
    private static void twentyEntries() {
        LullabyDebts x = Due.withRow("r1 1;s0 1 9 0;");
        for (int i = 1; i <= 20; i++) {
            Due.due("write(0, 18), the " + i, x.write(0, 18), i);
        }
        Due.due("the 21st", x.write(0, 17), Due.FULL);
        Due.due("told(17)", x.told(17), 20);
        Due.due("judge() as it was", x.judge(), Due.NONE);
        Due.due("write(0, 199), as it is FULL", x.write(0, 199), Due.OUTSIDE);
        Due.due("write(1, 18), as it is FULL", x.write(1, 18), Due.UNKNOWN);
        x.tear();
        Due.due("the first again", x.write(0, 17), 1);
        Due.due("judge()", x.judge(), 0);
    }

    /** "WRONG: the first that is otherwise now; NONE." */
    private static void firstThatIsOtherwise() {
        for (int wrong = 0; wrong < 20; wrong += 19) {
            LullabyDebts x = Due.withRow("r1 1;s0 1 9 0;s0 1 8 0;");
            for (int i = 0; i < 20; i++) {
                Due.due("judge() ahead of entry " + i, x.judge(), i > wrong ? wrong : Due.NONE);
                x.write(1, i == wrong ? 18 : 16);
            }
            Due.due("judge()", x.judge(), wrong);
        }
        LullabyDebts y = Due.withRow("r1 1;s0 1 9 0;s0 1 8 0;");
        Due.due("judge() of no book", y.judge(), Due.NONE);
        y.write(0, 18);
        y.write(1, 18);
        y.write(0, 0);
        Due.due("judge() of two wrong ones", y.judge(), 1);
    }

    private static void otherwiseByOne() {
        for (int notches = 0; notches <= 2; notches++) {
            LullabyDebts x = atTheEnds();
            x.write(1, notches);
            Due.due("1 notch, written " + notches, x.judge(), notches == 1 ? Due.NONE : 0);
            x.tear();
            x.write(3, 196 + notches);
            Due.due("198 notches, written " + (196 + notches), x.judge(), notches == 2 ? Due.NONE : 0);
        }
        LullabyDebts y = Due.withRow("r1 1;s1 1 1 0;c0 1 0;");
        y.write(0, 1);
        Due.due("ahead of the song", y.judge(), 0);
        y.sing(0, 0);
        Due.due("now", y.judge(), Due.NONE);
        y.undo(1);
        Due.due("undone", y.judge(), 0);
    }

    /** "Nothing OWED, no BOOK: how much both had." */
    private static void tearsBoth() {
        LullabyDebts x = Due.withRow("r1 1;s0 1 9 0;");
        Due.due("tear() of nothing", x.tear(), 0);
        x.owed(19, true);
        Due.due("tear() of one that is owed", x.tear(), 1);
        x.write(0, 0);
        Due.due("tear() of one entry", x.tear(), 1);
        for (int i = 0; i < 20; i++) {
            x.owed(19, true);
            x.write(0, 0);
        }
        Due.due("tear() of all", x.tear(), 26);
        Due.due("tear() again", x.tear(), 0);
        Due.due("told(16)", x.told(16), 0);
        Due.due("told(17)", x.told(17), 0);
        Due.due("couldBe()", x.couldBe(), 1);
        Due.due("judge()", x.judge(), Due.NONE);
        Due.due("tear() without a ROW", new LullabyDebts().tear(), 0);
    }

    /** Of row(): "nothing OWED, no BOOK" */
    private static void rowTearsBoth() {
        LullabyDebts x = Due.withRow("r1 1;s0 1 9 0;");
        x.owed(19, true);
        x.write(0, 0);
        Due.dueRow(x, "r1 1;s0 1 9 0;;", -11, 14);
        Due.due("told(16) behind a fault", x.told(16), 1);
        Due.due("told(17) behind a fault", x.told(17), 1);
        Due.dueRow(x, "r1 1;s0 1 9 0;", 1, Due.NONE);
        Due.due("told(16)", x.told(16), 0);
        Due.due("told(17)", x.told(17), 0);
        Due.due("couldBe()", x.couldBe(), 1);
        Due.due("judge()", x.judge(), Due.NONE);
    }

    /** "IMAGES 0, 1"; "UNKNOWN, NOT: it was not kept." */
    private static void imagesThatThereAre() {
        LullabyDebts x = Due.withRow("r1 1;");
        int[] unknown = {Integer.MIN_VALUE, -1, 2, 3, Integer.MAX_VALUE};
        for (int i : unknown) {
            Due.due("goBack(" + i + ")", x.goBack(i), Due.UNKNOWN);
            Due.due("keep(" + i + ")", x.keep(i), Due.UNKNOWN);
        }
        Due.due("goBack(0)", x.goBack(0), Due.NOT);
        Due.due("goBack(1)", x.goBack(1), Due.NOT);
        Due.due("keep(1)", x.keep(1), 1);
        Due.due("goBack(0)", x.goBack(0), Due.NOT);
        Due.due("goBack(1)", x.goBack(1), 1);
        Due.due("keep(0)", x.keep(0), 1);
        Due.due("goBack(0)", x.goBack(0), 1);
        Due.due("goBack(0) again", x.goBack(0), 1);
    }

    /** "IMAGES 0, 1 keep all of section 2, THE SEED." */
    private static void imageKeepsAll() {
        String text = "r9 4;" + "s1 49 9 0;".repeat(6) + "c3 1 1;".repeat(5) + "c0 9 1;";
        for (int image = 0; image < 2; image++) {
            LullabyDebts x = Due.withRow(text);
            for (int i = 0; i < 6; i++) {
                x.go(i, 1);
                x.sing(i, i);
            }
            x.seed(2147483647);
            x.keep(image);
            x.seed(5);
            x.evening(4);
            for (int i = 0; i < 6; i++) {
                x.carry(i, 1);
            }
            Due.due("in default meanwhile", x.told(8), 63);
            Due.due("goBack(" + image + ")", x.goBack(image), 1);
            Due.dueTold("image " + image, x, 9, 4, 6, 6, 0, 0, 32, 0, 0, 1, 100, 0, 5, 0, 0, 31, 0, 0, 0);
            for (int i = 0; i < 6; i++) {
                Due.dueSinger("image " + image, x, i, 1, 49, i < 5 ? 17 : 15, 1, i < 5 ? 2 : 0, 0);
            }
            Due.dueChild("image " + image, x, 0, 3, 1, 1, 0, 1, 1, 0);
            Due.dueChild("image " + image, x, 5, 0, 9, 1, 1, 3, 0, 6);
            Due.due("the seed", x.seed(0), 2147483647);
        }
    }

    /** Of row(): "IMAGES ... are gone" */
    private static void imagesGoWithTheRow() {
        LullabyDebts x = Due.withRow("r1 1;");
        x.keep(0);
        x.keep(1);
        Due.dueRow(x, "r1 1", -11, 4);
        Due.due("goBack(0) behind a fault", x.goBack(0), 1);
        Due.due("goBack(1) behind a fault", x.goBack(1), 1);
        Due.dueRow(x, "r1 1;", 0, Due.NONE);
        Due.due("goBack(0) behind a row", x.goBack(0), Due.NOT);
        Due.due("goBack(1) behind a row", x.goBack(1), Due.NOT);
    }
}
