/** Counts the calls whose answers are not the ones that are due. */
final class Due {
    static final int NONE = -1, UNKNOWN = -1000000001, OUTSIDE = -1000000002, NOT = -1000000003, FULL = -1000000004;

    private static int calls = 0;
    private static int wrong = 0;

    private Due() {
    }

    static void due(String call, long got, long want) {
        calls++;
        if (got != want) {
            wrong++;
            System.out.println(call + " answered " + got + ", due is " + want);
        }
    }

    static void feedAll(LullabyDebts x, String text) {
        for (int i = 0; i < text.length(); i++) {
            x.feed(text.charAt(i));
        }
    }

    /** A new object with this text read, which must have no fault. */
    static LullabyDebts withRow(String text) {
        LullabyDebts x = new LullabyDebts();
        feedAll(x, text);
        if (x.row() < 0) {
            due("row() of " + text + " without a fault", 0, 1);
        }
        return x;
    }

    /** Reads the text into the object; both the answer and the fault's letter are due. */
    static void dueRow(LullabyDebts x, String text, int answer, int faultAt) {
        feedAll(x, text);
        due("row() of '" + text + "'", x.row(), answer);
        due("fault() of '" + text + "'", x.fault(), faultAt);
        due("told(4) behind row()", x.told(4), 0);
    }

    /** told(what) from 0 on. */
    static void dueTold(String when, LullabyDebts x, int... want) {
        for (int what = 0; what < want.length; what++) {
            due(when + ": told(" + what + ")", x.told(what), want[what]);
        }
    }

    static void dueSinger(String when, LullabyDebts x, int s, int... want) {
        for (int what = 0; what < want.length; what++) {
            due(when + ": singer(" + s + ", " + what + ")", x.singer(s, what), want[what]);
        }
    }

    static void dueChild(String when, LullabyDebts x, int c, int... want) {
        for (int what = 0; what < want.length; what++) {
            due(when + ": child(" + c + ", " + what + ")", x.child(c, what), want[what]);
        }
    }

    /** Two snapshots, answer by answer. */
    static void dueSame(String when, String got, String want) {
        String[] gotLines = got.split("\n");
        String[] wantLines = want.split("\n");
        due(when + ": how many answers", gotLines.length, wantLines.length);
        for (int i = 0; i < Math.min(gotLines.length, wantLines.length); i++) {
            calls++;
            if (!gotLines[i].equals(wantLines[i])) {
                wrong++;
                System.out.println(when + ": " + gotLines[i] + ", due is " + wantLines[i]);
            }
        }
    }

    static void end(String test) {
        System.out.println(test + ": " + calls + " answers, " + wrong + " of them wrong");
        if (wrong != 0) {
            System.exit(1);
        }
    }
}
