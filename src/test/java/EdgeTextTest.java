import java.util.function.IntFunction;
import java.util.function.ToIntFunction;

/** Section 1 and promises 1 to 4: each sentence that names a bound, inside it, on it and outside it. */
public final class EdgeTextTest {
    private static final String WHOLE = "r9 20;s0 48 10 2;c1 4 6;";
    private static final int AT_THE_WORD = 5;

    public static void main(String[] args) {
        lettersHaveBounds();
        textHasTwoHundredAndForty();
        textIsEmptyBehindRow();
        numbersOfHouses();
        numbersOfSingers();
        numbersOfChildren();
        housesThatThereAreNot();
        figures();
        numbersOfAClause();
        wordsAreOneLetter();
        blanksMayStandAnywhere();
        butWithinNumbers();
        numbersSideBySideNeedOne();
        everyLetterAsFirst();
        everyLetterAsWord();
        everyLetterAsNumber();
        everyLetterBehindANumber();
        everyLetterAsEnd();
        endAtTheLength();
        firstLetterCounts();
        leastOfOneLetterCounts();
        sevenSingers();
        sevenChildren();
        housesAgain();
        rowIsAsInANewObject();
        emptyTexts();
        faultOfTheLatestRow();
        call512();
        Due.end("EdgeTextTest");
    }

    private static LullabyDebts read(String text, int answer, int faultAt) {
        LullabyDebts x = new LullabyDebts();
        Due.dueRow(x, text, answer, faultAt);
        return x;
    }

    /** "A letter (0 .. 255) comes behind THE TEXT: how many it has. OUTSIDE" */
    private static void lettersHaveBounds() {
        LullabyDebts x = new LullabyDebts();
        int[] outside = {Integer.MIN_VALUE, -256, -1, 256, 257, 65536 + 'r', Integer.MAX_VALUE};
        int[] inside = {0, 1, 254, 255};
        for (int letter : outside) {
            Due.due("feed(" + letter + ")", x.feed(letter), Due.OUTSIDE);
            Due.due("told(4) behind it", x.told(4), 0);
        }
        for (int i = 0; i < inside.length; i++) {
            Due.due("feed(" + inside[i] + ")", x.feed(inside[i]), i + 1);
        }
        Due.due("told(4)", x.told(4), 4);
    }

    /** "THE ROW is told in a text (240 letters at most)"; "FULL (240)" */
    private static void textHasTwoHundredAndForty() {
        String row = "r1 1;s0 1 0 0;";
        for (int length = 239; length <= 240; length++) {
            LullabyDebts x = read(" ".repeat(length - row.length()) + row, 1, Due.NONE);
            Due.due("told(2) of " + length + " letters", x.told(2), 1);
        }
        LullabyDebts y = new LullabyDebts();
        Due.feedAll(y, " ".repeat(241 - row.length()) + row.substring(0, row.length() - 2));
        Due.due("told(4)", y.told(4), 239);
        Due.due("the 240th letter", y.feed('0'), 240);
        Due.due("the 241st letter", y.feed(';'), Due.FULL);
        Due.due("the 242nd letter", y.feed(' '), Due.FULL);
        Due.due("told(4)", y.told(4), 240);
        Due.due("row() without the ';'", y.row(), -11);
        Due.due("fault() at the end", y.fault(), 240);
        read(" ".repeat(239) + "x", -11, 239);
        read(" ".repeat(238) + "r1", -11, 240);
    }

    /** "THE TEXT (it is empty then, with a FAULT, too) becomes THE ROW" */
    private static void textIsEmptyBehindRow() {
        LullabyDebts x = new LullabyDebts();
        Due.feedAll(x, " ".repeat(240));
        Due.due("row()", x.row(), 0);
        Due.due("told(4)", x.told(4), 0);
        Due.due("feed('r')", x.feed('r'), 1);
        Due.due("row() with a fault", x.row(), -11);
        Due.due("told(4) with a fault", x.told(4), 0);
        Due.due("feed('r')", x.feed('r'), 1);
        Due.feedAll(x, "2 3;");
        Due.due("told(4)", x.told(4), 5);
        Due.due("row()", x.row(), 0);
        Due.due("fault()", x.fault(), Due.NONE);
        Due.due("told(0)", x.told(0), 2);
    }

    /** One number of a text, at and beside its bounds; a fault is at its first figure and leaves no ROW here. */
    private static void dueNumber(String ahead, int least, int most, String behind, ToIntFunction<LullabyDebts> told) {
        int[] values = {least - 1, least, least + 1, most - 1, most, most + 1, 999};
        for (int v : values) {
            if (v < 0 || v > most && v < least) {
                continue;
            }
            boolean inside = v >= least && v <= most;
            String text = ahead + v + behind;
            int singers = text.indexOf('s') < 0 ? 0 : 1;
            LullabyDebts x = read(text, inside ? singers : -12, inside ? Due.NONE : ahead.length());
            if (inside) {
                Due.due("what '" + text + "' tells", told.applyAsInt(x), v);
            } else {
                Due.due("no ROW of '" + text + "'", x.told(0), 0);
            }
        }
    }

    /** "'r' N D ';' (HOUSES 0 .. N less 1, N 1 .. 20; an EVENING has D SONGS for each SINGER, 1 .. 30" */
    private static void numbersOfHouses() {
        dueNumber("r", 1, 20, " 7;", x -> x.told(0));
        dueNumber("r 7 ", 1, 30, ";", x -> x.told(1));
        dueNumber("r 7 ", 1, 30, ";s0 9 9 0;", x -> x.singer(0, 4));
    }

    /** "VOICE K, 0 .. 3; AGE A, 1 .. 60; owes O SONGS, 0 .. 99; lives in HOUSE H" */
    private static void numbersOfSingers() {
        dueNumber("r9 9;s", 0, 3, " 9 9 0;", x -> x.singer(0, 0));
        dueNumber("r9 9;s0 ", 1, 60, " 9 0;", x -> x.singer(0, 1));
        dueNumber("r9 9;s0 9 ", 0, 99, " 0;", x -> x.singer(0, 2) / 2);
        dueNumber("r9 9;s0 9 9 ", 0, 8, ";", x -> x.singer(0, 5));
        dueNumber("r9 9;s0 9 9 ", 0, 8, ";", x -> x.singer(0, 3));
        Due.due("owes twice 99", read("r1 1;s0 1 99 0;", 1, Due.NONE).singer(0, 2), 198);
        Due.due("owes twice 1", read("r1 1;s1 1 1 0;", 1, Due.NONE).singer(0, 2), 2);
        Due.due("owes twice 0", read("r1 1;s3 1 0 0;", 1, Due.NONE).singer(0, 2), 0);
    }

    /** "KIND K, 0 .. 3; goes off by P, 1 .. 20; lies in HOUSE H" */
    private static void numbersOfChildren() {
        dueNumber("r9 9;c", 0, 3, " 9 0;", x -> x.child(0, 0));
        dueNumber("r9 9;c0 ", 1, 20, " 0;", x -> x.child(0, 1));
        dueNumber("r9 9;c0 9 ", 0, 8, ";", x -> x.child(0, 2));
    }

    /** "a HOUSE that there is not (at its first)" */
    private static void housesThatThereAreNot() {
        int[] rows = {1, 2, 10, 19, 20};
        for (int n : rows) {
            dueNumber("r" + n + " 9;s0 9 9 ", 0, n - 1, ";", x -> x.singer(0, 5));
            dueNumber("r" + n + " 9;c0 9 ", 0, n - 1, ";", x -> x.child(0, 2));
        }
    }

    /** "NUMBERS have one to three figures"; "2 a NUMBER of four figures or more" */
    private static void figures() {
        String[] ahead = {"r", "r1 ", "r2 1;s", "r2 1;s0 ", "r2 1;s0 1 ", "r2 1;s0 1 0 ", "r2 1;c", "r2 1;c0 ", "r2 1;c0 1 "};
        String[] behind = {" 1;", ";", " 1 0 0;", " 0 0;", " 0;", ";", " 1 0;", " 0;", ";"};
        String[] fine = {"1", "01", "001"};
        String[] tooMany = {"0001", "00001", "1000", "9999", "0000000001", "4294967297", "18446744073709551617"};
        for (int i = 0; i < ahead.length; i++) {
            for (String number : fine) {
                read(ahead[i] + number + behind[i], i >= 2 && i < 6 ? 1 : 0, Due.NONE);
            }
            for (String number : tooMany) {
                read(ahead[i] + number + behind[i], -12, ahead[i].length());
            }
        }
        LullabyDebts x = read("r020 030;s003 060 099 019;c003 020 019;", 1, Due.NONE);
        Due.dueTold("three figures", x, 20, 30, 1, 1);
        Due.dueSinger("three figures", x, 0, 3, 60, 198, 19, 30, 19);
        Due.dueChild("three figures", x, 0, 3, 20, 19, 1, 0, 0, 20);
        read("r1 1;s0 1 000 0000;", -12, 14);
    }

    /** Of a clause with a number too few its ';' can't stand there; of one with a number too many that number. */
    private static void numbersOfAClause() {
        read("r;", -11, 1);
        read("r1;", -11, 2);
        read("r1 1 1;", -11, 5);
        read("r1 1;s;", -11, 6);
        read("r1 1;s0;", -11, 7);
        read("r1 1;s0 1;", -11, 9);
        read("r1 1;s0 1 0;", -11, 11);
        read("r1 1;s0 1 0 0 0;", -11, 14);
        read("r1 1;c;", -11, 6);
        read("r1 1;c0;", -11, 7);
        read("r1 1;c0 1;", -11, 9);
        read("r1 1;c0 1 0 0;", -11, 12);
    }

    /** "a word is one letter" */
    private static void wordsAreOneLetter() {
        read("rr1 1;", -11, 1);
        read("r1 1;ss0 1 0 0;", -11, 6);
        read("r1 1;cc0 1 0;", -11, 6);
        read("r1 1;sc0 1 0;", -11, 6);
        read("row1 1;", -11, 1);
        read("r1 1;;", -11, 5);
        read("R1 1;", -11, 0);
        read("r1 1;S0 1 0 0;", -11, AT_THE_WORD);
        read("r1 1;C0 1 0;", -11, AT_THE_WORD);
    }

    private static boolean isFigure(char letter) {
        return letter >= '0' && letter <= '9';
    }

    /** "blanks (32) may stand anywhere" */
    private static void blanksMayStandAnywhere() {
        for (int at = 0; at <= WHOLE.length(); at++) {
            boolean within = at > 0 && at < WHOLE.length() && isFigure(WHOLE.charAt(at - 1)) && isFigure(WHOLE.charAt(at));
            if (!within) {
                for (int n = 1; n <= 3; n += 2) {
                    LullabyDebts x = read(WHOLE.substring(0, at) + " ".repeat(n) + WHOLE.substring(at), 1, Due.NONE);
                    Due.dueTold("a blank at " + at, x, 9, 20, 1, 1);
                    Due.dueSinger("a blank at " + at, x, 0, 0, 48, 20, 2, 20, 2);
                    Due.dueChild("a blank at " + at, x, 0, 1, 4, 6);
                }
            }
        }
        LullabyDebts y = read(" r 9 20 ; s 0 48 10 2 ; c 1 4 6 ; ", 1, Due.NONE);
        Due.dueTold("blanks", y, 9, 20, 1, 1);
        int[] noBlanks = {0, 9, 10, 11, 12, 13, 31, 33, 133, 160, 255};
        for (int letter : noBlanks) {
            read("r9" + (char) letter + "20;", -11, 2);
            read((char) letter + "r9 20;", -11, 0);
            read("r9 20;" + (char) letter, -11, 6);
        }
    }

    /** "... but within NUMBERS": they are two then, and so one too many, or one that is out of its bounds */
    private static void butWithinNumbers() {
        read("r9 2 0;", -11, 5);
        read("r1 0 20;", -12, 3);
        read("r9 20;s0 48 1 0 2;", -11, 16);
        read("r9 20;s0 4 8 10 2;", -12, 13);
        read("r9 20;c1 1 4 6;", -11, 13);
    }

    /** "two NUMBERS side by side need one" */
    private static void numbersSideBySideNeedOne() {
        read("r9 9;", 0, Due.NONE);
        read("r99;", -12, 1);
        read("r11;", -11, 3);
        read("r1 1;s01 1 0;", -11, 12);
        read("r1 1;s0 10 0;", -11, 12);
        read("r1 1;s0 1 00;", -11, 12);
        read("r1 1;s0100;", -12, 6);
        read("r1 1;c01 1;", -11, 10);
        read("r1 1;c0 10;", -11, 10);
    }

    private static void everyLetter(String ahead, IntFunction<int[]> due) {
        for (int letter = 0; letter <= 255; letter++) {
            int[] want = due.apply(letter);
            LullabyDebts x = new LullabyDebts();
            Due.feedAll(x, ahead);
            x.feed(letter);
            Due.due("row() of '" + ahead + "' with letter " + letter, x.row(), want[0]);
            Due.due("fault() of '" + ahead + "' with letter " + letter, x.fault(), want[1]);
        }
    }

    /** "1 it cannot stand there (a letter that is no word, another word first than 'r')" */
    private static void everyLetterAsFirst() {
        everyLetter("", a -> a == ' ' ? new int[] {0, -1} : new int[] {-11, a == 'r' ? 1 : 0});
        everyLetter("  ", a -> a == ' ' ? new int[] {0, -1} : new int[] {-11, a == 'r' ? 3 : 2});
    }

    private static void everyLetterAsWord() {
        everyLetter("r1 1;", a -> {
            switch (a) {
                case ' ': return new int[] {0, -1};
                case 'r': return new int[] {-13, 5};
                case 's':
                case 'c': return new int[] {-11, 6};
                default: return new int[] {-11, 5};
            }
        });
    }

    private static void everyLetterAsNumber() {
        everyLetter("r", a -> a == '0' ? new int[] {-12, 1} : new int[] {-11, a >= '1' && a <= '9' || a == ' ' ? 2 : 1});
        everyLetter("r2 2;s1 ", a -> a == '0' ? new int[] {-12, 8} : new int[] {-11, a >= '1' && a <= '9' || a == ' ' ? 9 : 8});
        everyLetter("r2 2;c0 1 ", a -> a >= '2' && a <= '9' ? new int[] {-12, 10}
            : new int[] {-11, a == '0' || a == '1' || a == ' ' ? 11 : 10});
    }

    private static void everyLetterBehindANumber() {
        everyLetter("r1", a -> new int[] {-11, a >= '0' && a <= '9' || a == ' ' ? 3 : 2});
        everyLetter("r1 ", a -> a == '0' ? new int[] {-12, 3} : new int[] {-11, a >= '1' && a <= '9' || a == ' ' ? 4 : 3});
    }

    private static void everyLetterAsEnd() {
        everyLetter("r1 1", a -> a == ';' ? new int[] {0, -1} : new int[] {-11, a >= '0' && a <= '9' || a == ' ' ? 5 : 4});
        everyLetter("r1 1 ", a -> a == ';' ? new int[] {0, -1} : new int[] {-11, a == ' ' ? 6 : 5});
        everyLetter("r1 1;s0 1 0 0 ", a -> a == ';' ? new int[] {1, -1} : new int[] {-11, a == ' ' ? 15 : 14});
        everyLetter("r1 1;c0 1 0 ", a -> a == ';' ? new int[] {0, -1} : new int[] {-11, a == ' ' ? 13 : 12});
    }

    /** "(the end at the text's length)" */
    private static void endAtTheLength() {
        for (int length = 0; length <= WHOLE.length(); length++) {
            String text = WHOLE.substring(0, length);
            boolean ends = text.isEmpty() || text.endsWith(";");
            int singers = length > 6 ? 1 : 0;
            read(text, ends ? singers : -11, ends ? Due.NONE : length);
            read(text + "  ", ends ? singers : -11, ends ? Due.NONE : length + 2);
        }
    }

    /** "FAULTS, at the first letter that has one" */
    private static void firstLetterCounts() {
        read("r0 1x", -12, 1);
        read("r1 1x0", -11, 4);
        read("r21 31;s9 99 999 99;", -12, 1);
        read("r20 31;s9 99 999 99;", -12, 4);
        read("r20 30;s4 61 100 20;", -12, 8);
        read("r20 30;s3 61 100 20;", -12, 10);
        read("r20 30;s3 60 100 20;", -12, 13);
        read("r20 30;s3 60 99 20;", -12, 16);
        read("r20 30;s3 60 99 19;c4 21 20;", -12, 20);
        read("r20 30;s3 60 99 19;c3 21 20;", -12, 22);
        read("r20 30;s3 60 99 19;c3 20 20;", -12, 25);
        read("r20 30;s3 60 99 19;c3 20 19;", 1, Due.NONE);
        read("r1 1;r x", -13, AT_THE_WORD);
        read("r1 1;x r", -11, AT_THE_WORD);
        read("r1 1;c0 0 0;r", -12, 8);
    }

    /** "of these the least" */
    private static void leastOfOneLetterCounts() {
        read("r1 1 9999;", -11, 5);
        read("r1 1 99;", -11, 5);
        read("r1 1;9999", -11, 5);
        read("9999", -11, 0);
        read("r1 1r1 1;", -11, 4);
        read("rr", -11, 1);
        read("r1 1;" + "s0 1 0 0;".repeat(5) + "s0 1 0 0 s", -11, 59);
        read("r1 1;" + "c0 1 0;".repeat(5) + "c0 1 0 c", -11, 47);
        read("r1 1;" + "s0 1 0 0;".repeat(5) + "s0 1 0 0 0000;", -11, 59);
    }

    /** "6 SINGERS at most"; "a seventh 's' ... (at it)" */
    private static void sevenSingers() {
        String s = "s0 1 0 0;";
        for (int n = 0; n <= 6; n++) {
            Due.due("told(2) of " + n, read("r1 1;" + s.repeat(n), n, Due.NONE).told(2), n);
        }
        read("r1 1;" + s.repeat(7), -13, 5 + 6 * 9);
        read("r1 1;" + s.repeat(6) + "s", -13, 5 + 6 * 9);
        read("r1 1;" + s.repeat(6) + " s9999", -13, 6 + 6 * 9);
        read("r1 1;c0 1 0;" + s.repeat(3) + "c0 1 0;" + s.repeat(3) + "c0 1 0;", 6, Due.NONE);
        read("r1 1;c0 1 0;" + s.repeat(3) + "c0 1 0;" + s.repeat(4), -13, 5 + 14 + 6 * 9);
    }

    /** "6 CHILDREN at most"; "a seventh ... 'c' (at it)" */
    private static void sevenChildren() {
        String c = "c0 1 0;";
        for (int n = 0; n <= 6; n++) {
            Due.due("told(3) of " + n, read("r1 1;" + c.repeat(n), 0, Due.NONE).told(3), n);
        }
        read("r1 1;" + c.repeat(7), -13, 5 + 6 * 7);
        read("r1 1;" + c.repeat(6) + "c", -13, 5 + 6 * 7);
        read("r1 1;" + c.repeat(6) + "s0 1 0 0;", 1, Due.NONE);
        read("r1 1;" + c.repeat(6) + "s0 1 0 0;" + c, -13, 5 + 6 * 7 + 9);
        LullabyDebts x = read("r1 1;" + "s0 1 0 0;".repeat(6) + c.repeat(6), 6, Due.NONE);
        Due.dueTold("all", x, 1, 1, 6, 6, 0, 0, 63, 63);
    }

    /** "first, once"; "3 'r' again ... (at it)" */
    private static void housesAgain() {
        read("r1 1;r1 1;", -13, 5);
        read("r1 1;r", -13, 5);
        read("r1 1;  r0 0;", -13, 7);
        read("r1 1;s0 1 0 0;r1 1;", -13, 14);
        read("s0 1 0 0;r1 1;", -11, 0);
        read("c0 1 0;r1 1;", -11, 0);
        read(";r1 1;", -11, 0);
        LullabyDebts x = read("r1 1;", 0, Due.NONE);
        Due.dueRow(x, "r2 2;", 0, Due.NONE);
        Due.due("told(0): once in each text", x.told(0), 2);
    }

    /**
     * "THE TEXT ... becomes THE ROW (EVENING 0, all at home, with D SONGS, owing as told, all CHILDREN awake, where told,
     * nothing HEARD, SUNG TO 0, nobody LATE, IN DEFAULT; nothing OWED, no BOOK; IMAGES, what could be undone are gone"
     */
    private static void rowIsAsInANewObject() {
        String ahead = "r9 4;" + "s1 49 9 1;".repeat(6) + "c3 1 1;".repeat(5) + "c0 9 1;";
        String[] texts = {ahead, "r9 4;s1 49 9 1;s0 3 3 3;c3 1 1;", "r1 1;c0 1 0;", "r2 2;s0 1 1 1;", "r1 1;", "", " "};
        for (String text : texts) {
            LullabyDebts used = Due.withRow(ahead);
            used.keep(0);
            Due.due("plan(-1)", used.plan(-1), 5);
            Due.due("round(0, 1)", used.round(0, 1), 1234);
            for (int i = 0; i < 6; i++) {
                used.sing(i, i);
                used.owed(i, true);
                used.write(i, 3);
            }
            used.carry(5, 1);
            Due.due("one was late", used.told(9), 1);
            used.evening(4);
            used.keep(1);
            for (int i = 0; i < 6; i++) {
                used.sing(i, i);
                used.go(i, 2);
            }
            LullabyDebts anew = new LullabyDebts();
            Due.feedAll(used, text);
            Due.feedAll(anew, text);
            Due.due("row() of '" + text + "'", used.row(), anew.row());
            for (int s = -1; s < 6; s++) {
                Due.due("plan(" + s + ") of '" + text + "'", used.plan(s), anew.plan(s));
            }
            Due.dueSame("row() of '" + text + "' as in a new object", Snapshot.whole(used), Snapshot.whole(anew));
        }
    }

    /** "An empty text (or one of blanks alone): no ROW." */
    private static void emptyTexts() {
        int[] blanks = {0, 1, 239, 240};
        for (int n : blanks) {
            LullabyDebts x = Due.withRow("r3 5;s0 49 3 1;c0 2 1;");
            x.sing(0, 0);
            x.evening(4);
            x.owed(1, true);
            x.write(0, 2);
            x.keep(0);
            x.evening(1);
            Due.dueRow(x, " ".repeat(n), 0, Due.NONE);
            Due.dueTold(n + " blanks", x, 0, 0, 0, 0, 0, 0, 0, 0, 0, 0, 0, Due.NONE, Due.NONE, 0, 0, 0, 0, 0, 0);
            Due.due("singer(0, 0)", x.singer(0, 0), Due.UNKNOWN);
            Due.due("child(0, 0)", x.child(0, 0), Due.UNKNOWN);
            Due.due("evening(1)", x.evening(1), Due.NOT);
            Due.due("drift(1)", x.drift(1), Due.NOT);
            Due.due("undo(1)", x.undo(1), Due.NOT);
            Due.due("goBack(0)", x.goBack(0), Due.NOT);
        }
    }

    /** "The letter of the FAULT of the latest row(); NONE." */
    private static void faultOfTheLatestRow() {
        LullabyDebts x = new LullabyDebts();
        Due.due("fault() of a new object", x.fault(), Due.NONE);
        Due.feedAll(x, "r1 1;s");
        Due.due("fault() ahead of row()", x.fault(), Due.NONE);
        Due.due("row()", x.row(), -11);
        Due.due("fault()", x.fault(), 6);
        x.feed('x');
        Due.due("fault() stays behind feed()", x.fault(), 6);
        Due.due("row()", x.row(), -11);
        Due.due("fault() at the first letter", x.fault(), 0);
        Due.due("row() of an empty text", x.row(), 0);
        Due.due("fault() of an empty text", x.fault(), Due.NONE);
    }

    /** "An object is used for at most 512 calls after it has been made" */
    private static void call512() {
        LullabyDebts x = new LullabyDebts();
        Due.feedAll(x, " ".repeat(226) + "r2 9;s0 1 9 0;");
        Due.due("row(), the 241st call", x.row(), 1);
        for (int i = 242; i <= 510; i++) {
            Due.due("call " + i, x.evening(1), i - 241);
        }
        Due.due("call 511", x.undo(30), 239);
        Due.due("call 512", x.go(0, 1), 8);
    }
}
