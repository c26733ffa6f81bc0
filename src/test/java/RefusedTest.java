import java.util.function.Supplier;
import java.util.function.ToIntFunction;

/**
 * "REFUSALS, of several the first in this order: UNKNOWN, OUTSIDE, NOT, FULL"; "What is refused changes nothing."
 * Each refused call is made on one of two like objects, and both must tell the same from then on.
 */
public final class RefusedTest {
    private static final int LEAST = Integer.MIN_VALUE;
    private static final int GREATEST = Integer.MAX_VALUE;

    public static void main(String[] args) {
        theNight();
        feeds();
        told();
        goes();
        sings();
        carries();
        times();
        undoes();
        tries();
        owesAndWrites();
        seedsAndImages();
        withoutARow();
        fullText();
        fullOwedAndBook();
        fullPast();
        fullEvenings();
        rowWithAFault();
        triedCallsChangeNothing();
        Due.end("RefusedTest");
    }

    /**
     * Singer 0 in house 1 with 4 songs left, 1 in house 2 with none, 2 in house 2 and FREE; child 0 asleep in house 1,
     * 1 awake in house 2, 2 in the last house, 3 in the first; a fault, a text begun, image 0, what is owed, a book.
     */
    private static LullabyDebts someNight() {
        LullabyDebts x = Due.withRow("r9 9;s0 48 10 1;s1 49 7 2;s2 30 0 2;c0 5 1;c1 6 2;c2 9 8;c3 2 0;");
        x.evening(1);
        x.seed(41);
        x.keep(0);
        x.seed(42);
        x.evening(1);
        x.sing(0, 0);
        x.sing(1, 1);
        x.owed(2, true);
        x.owed(12, false);
        x.write(0, x.singer(0, 2));
        x.write(1, 5);
        Due.feedAll(x, "r2;");
        x.row();
        Due.feedAll(x, "r3 4;s1 5 6 2;c");
        return x;
    }

    private static void theNight() {
        LullabyDebts x = someNight();
        Due.dueTold("the night", x, 9, 9, 3, 4, 15, 2, 0b1110, 0b100, 0, 1, 15, 0, 2, 8, 1, 0, 2, 2, 3);
        Due.dueSinger("the night", x, 0, 0, 48, 10, 1, 4, 1);
        Due.dueSinger("the night", x, 1, 1, 49, 5, 2, 0, 2);
        Due.dueSinger("the night", x, 2, 2, 30, 0, 2, 9, 2);
        Due.dueChild("the night", x, 0, 0, 5, 1, 0, 5, 1, 0);
        Due.dueChild("the night", x, 1, 1, 6, 2, 1, 9, 0, 3);
        Due.dueChild("the night", x, 2, 2, 9, 8, 1, 0, 0, 5);
        Due.dueChild("the night", x, 3, 3, 2, 0, 1, 0, 0, 2);
        Due.due("the fault", x.fault(), 2);
    }

    private static void refused(String call, ToIntFunction<LullabyDebts> made, int refusal) {
        refused(call, RefusedTest::someNight, made, refusal);
    }

    private static void refused(String call, Supplier<LullabyDebts> object, ToIntFunction<LullabyDebts> made, int refusal) {
        LullabyDebts with = object.get();
        LullabyDebts without = object.get();
        Due.due(call, made.applyAsInt(with), refusal);
        Due.dueSame(call + " changed nothing", Snapshot.whole(with), Snapshot.whole(without));
    }

    private static void feeds() {
        int[] outside = {LEAST, -1, 256, GREATEST};
        for (int letter : outside) {
            refused("feed(" + letter + ")", x -> x.feed(letter), Due.OUTSIDE);
        }
    }

    private static void told() {
        int[] outside = {LEAST, -1, 19, GREATEST};
        for (int what : outside) {
            refused("told(" + what + ")", x -> x.told(what), Due.OUTSIDE);
        }
        int[] outsideOfOne = {LEAST, -1, 7, GREATEST};
        for (int what : outsideOfOne) {
            refused("singer(2, " + what + ")", x -> x.singer(2, what), Due.OUTSIDE);
            refused("child(3, " + what + ")", x -> x.child(3, what), Due.OUTSIDE);
            refused("singer(3, " + what + ")", x -> x.singer(3, what), Due.UNKNOWN);
            refused("child(4, " + what + ")", x -> x.child(4, what), Due.UNKNOWN);
        }
        refused("singer(-1, 0)", x -> x.singer(-1, 0), Due.UNKNOWN);
        refused("child(-1, 0)", x -> x.child(-1, 0), Due.UNKNOWN);
    }

    private static void goes() {
        refused("go(-1, 0)", x -> x.go(-1, 0), Due.UNKNOWN);
        refused("go(3, 0)", x -> x.go(3, 0), Due.UNKNOWN);
        refused("go(3, 9): UNKNOWN ahead of OUTSIDE", x -> x.go(3, 9), Due.UNKNOWN);
        refused("go(0, -1)", x -> x.go(0, -1), Due.OUTSIDE);
        refused("go(0, 9)", x -> x.go(0, 9), Due.OUTSIDE);
        refused("go(1, 9): OUTSIDE ahead of NOT", x -> x.go(1, 9), Due.OUTSIDE);
        refused("go(0, 1) where he is", x -> x.go(0, 1), Due.NOT);
        refused("go(0, 6), five steps with four songs", x -> x.go(0, 6), Due.NOT);
        refused("go(1, 3) with none left", x -> x.go(1, 3), Due.NOT);
        Due.due("go(0, 5), four steps with four songs", someNight().go(0, 5), 0);
    }

    private static void sings() {
        refused("sing(-1, 1)", x -> x.sing(-1, 1), Due.UNKNOWN);
        refused("sing(3, 1)", x -> x.sing(3, 1), Due.UNKNOWN);
        refused("sing(0, -1)", x -> x.sing(0, -1), Due.UNKNOWN);
        refused("sing(0, 4)", x -> x.sing(0, 4), Due.UNKNOWN);
        refused("sing(1, 4): UNKNOWN ahead of NOT", x -> x.sing(1, 4), Due.UNKNOWN);
        refused("sing(0, 1) in the house beside", x -> x.sing(0, 1), Due.NOT);
        refused("sing(0, 0) asleep", x -> x.sing(0, 0), Due.NOT);
        refused("sing(2, 1) who is FREE", x -> x.sing(2, 1), Due.NOT);
        refused("sing(1, 1) with none left", x -> x.sing(1, 1), Due.NOT);
        LullabyDebts y = someNight();
        y.go(0, 2);
        Due.due("sing(0, 1) in its house", y.sing(0, 1), 3);
    }

    private static void carries() {
        refused("carry(-1, 1)", x -> x.carry(-1, 1), Due.UNKNOWN);
        refused("carry(4, 1)", x -> x.carry(4, 1), Due.UNKNOWN);
        refused("carry(4, 0): UNKNOWN ahead of OUTSIDE", x -> x.carry(4, 0), Due.UNKNOWN);
        int[] outside = {LEAST, -2, 0, 2, GREATEST};
        for (int way : outside) {
            refused("carry(1, " + way + ")", x -> x.carry(1, way), Due.OUTSIDE);
            refused("carry(0, " + way + "): OUTSIDE ahead of NOT", x -> x.carry(0, way), Due.OUTSIDE);
        }
        refused("carry(0, 1) asleep", x -> x.carry(0, 1), Due.NOT);
        refused("carry(0, -1) asleep", x -> x.carry(0, -1), Due.NOT);
        refused("carry(2, 1) from the last house", x -> x.carry(2, 1), Due.NOT);
        refused("carry(3, -1) from the first house", x -> x.carry(3, -1), Due.NOT);
        Due.due("carry(2, -1)", someNight().carry(2, -1), 7);
        Due.due("carry(3, 1)", someNight().carry(3, 1), 1);
    }

    private static void times() {
        int[] outside = {LEAST, -1, 0, 21, GREATEST};
        for (int n : outside) {
            refused("evening(" + n + ")", x -> x.evening(n), Due.OUTSIDE);
            refused("drift(" + n + ")", x -> x.drift(n), Due.OUTSIDE);
        }
    }

    private static void undoes() {
        int[] outside = {LEAST, -1, 0, 31, GREATEST};
        for (int n : outside) {
            refused("undo(" + n + ")", x -> x.undo(n), Due.OUTSIDE);
        }
        Due.due("told(18)", someNight().told(18), 3);
        refused("undo(4) of three", x -> x.undo(4), Due.NOT);
        refused("undo(30) of three", x -> x.undo(30), Due.NOT);
        Due.due("undo(3) of three", someNight().undo(3), 1);
    }

    private static void tries() {
        int[][] nobody = {{LEAST, 0}, {-1, 0}, {3, 0}, {GREATEST, 0}, {0, LEAST}, {0, -1}, {0, 4}, {0, GREATEST}, {3, 4}};
        for (int[] pair : nobody) {
            String of = "(" + pair[0] + ", " + pair[1] + ")";
            refused("steps" + of, x -> x.steps(pair[0], pair[1]), Due.UNKNOWN);
            refused("can" + of, x -> x.can(pair[0], pair[1]), Due.UNKNOWN);
            refused("pays" + of, x -> x.pays(pair[0], pair[1]), Due.UNKNOWN);
            refused("sing" + of, x -> x.sing(pair[0], pair[1]), Due.UNKNOWN);
        }
        int[] noSinger = {LEAST, -2, 3, 6, GREATEST};
        for (int s : noSinger) {
            refused("plan(" + s + ")", x -> x.plan(s), Due.UNKNOWN);
            refused("round(" + s + ", 0)", x -> x.round(s, 0), Due.UNKNOWN);
            refused("round(" + s + ", 2): UNKNOWN ahead of OUTSIDE", x -> x.round(s, 2), Due.UNKNOWN);
        }
        refused("round(-1, 0)", x -> x.round(-1, 0), Due.UNKNOWN);
        refused("round(0, -1)", x -> x.round(0, -1), Due.OUTSIDE);
        refused("round(0, 2)", x -> x.round(0, 2), Due.OUTSIDE);
        refused("colic(-1, 50)", x -> x.colic(-1, 50), Due.OUTSIDE);
        refused("colic(61, 50)", x -> x.colic(61, 50), Due.OUTSIDE);
        refused("colic(5, -1)", x -> x.colic(5, -1), Due.OUTSIDE);
        refused("colic(5, 101)", x -> x.colic(5, 101), Due.OUTSIDE);
    }

    private static void owesAndWrites() {
        int[] outside = {LEAST, -1, 199, GREATEST};
        for (int v : outside) {
            refused("owed(" + v + ", true)", x -> x.owed(v, true), Due.OUTSIDE);
            refused("owed(" + v + ", false)", x -> x.owed(v, false), Due.OUTSIDE);
            refused("write(2, " + v + ")", x -> x.write(2, v), Due.OUTSIDE);
            refused("write(3, " + v + "): UNKNOWN ahead of OUTSIDE", x -> x.write(3, v), Due.UNKNOWN);
        }
        refused("write(-1, 0)", x -> x.write(-1, 0), Due.UNKNOWN);
        refused("write(3, 0)", x -> x.write(3, 0), Due.UNKNOWN);
    }

    private static void seedsAndImages() {
        refused("seed(-1)", x -> x.seed(-1), Due.OUTSIDE);
        refused("seed(least)", x -> x.seed(LEAST), Due.OUTSIDE);
        int[] unknown = {LEAST, -1, 2, GREATEST};
        for (int i : unknown) {
            refused("keep(" + i + ")", x -> x.keep(i), Due.UNKNOWN);
            refused("goBack(" + i + "): UNKNOWN ahead of NOT", x -> x.goBack(i), Due.UNKNOWN);
        }
        refused("goBack(1) that was not kept", x -> x.goBack(1), Due.NOT);
    }

    /** "No ROW.": of a new object, and of one whose latest text was empty. */
    private static void withoutARow() {
        Supplier<LullabyDebts> anew = () -> {
            LullabyDebts x = new LullabyDebts();
            x.seed(9);
            x.owed(3, true);
            x.feed('r');
            return x;
        };
        Supplier<LullabyDebts> emptied = () -> {
            LullabyDebts x = someNight();
            x.row();
            x.row();
            return x;
        };
        withoutARow(anew);
        withoutARow(emptied);
    }

    private static void withoutARow(Supplier<LullabyDebts> object) {
        refused("evening(1)", object, x -> x.evening(1), Due.NOT);
        refused("evening(20)", object, x -> x.evening(20), Due.NOT);
        refused("evening(21): OUTSIDE ahead of NOT", object, x -> x.evening(21), Due.OUTSIDE);
        refused("evening(0): OUTSIDE ahead of NOT", object, x -> x.evening(0), Due.OUTSIDE);
        refused("drift(1)", object, x -> x.drift(1), Due.NOT);
        refused("drift(20)", object, x -> x.drift(20), Due.NOT);
        refused("drift(21): OUTSIDE ahead of NOT", object, x -> x.drift(21), Due.OUTSIDE);
        refused("drift(0): OUTSIDE ahead of NOT", object, x -> x.drift(0), Due.OUTSIDE);
        refused("undo(1)", object, x -> x.undo(1), Due.NOT);
        refused("undo(0): OUTSIDE ahead of NOT", object, x -> x.undo(0), Due.OUTSIDE);
        refused("undo(31): OUTSIDE ahead of NOT", object, x -> x.undo(31), Due.OUTSIDE);
        refused("goBack(0)", object, x -> x.goBack(0), Due.NOT);
        refused("goBack(1)", object, x -> x.goBack(1), Due.NOT);
        refused("singer(0, 0)", object, x -> x.singer(0, 0), Due.UNKNOWN);
        refused("child(0, 0)", object, x -> x.child(0, 0), Due.UNKNOWN);
        refused("go(0, 0)", object, x -> x.go(0, 0), Due.UNKNOWN);
        refused("sing(0, 0)", object, x -> x.sing(0, 0), Due.UNKNOWN);
        refused("carry(0, 1)", object, x -> x.carry(0, 1), Due.UNKNOWN);
        refused("steps(0, 0)", object, x -> x.steps(0, 0), Due.UNKNOWN);
        refused("can(0, 0)", object, x -> x.can(0, 0), Due.UNKNOWN);
        refused("pays(0, 0)", object, x -> x.pays(0, 0), Due.UNKNOWN);
        refused("plan(0)", object, x -> x.plan(0), Due.UNKNOWN);
        refused("round(0, 0)", object, x -> x.round(0, 0), Due.UNKNOWN);
        refused("write(0, 0)", object, x -> x.write(0, 0), Due.UNKNOWN);
    }

    private static void fullText() {
        Supplier<LullabyDebts> full = () -> {
            LullabyDebts x = Due.withRow("r2 2;s0 1 9 0;");
            Due.feedAll(x, " ".repeat(226) + "r3 3;s0 1 9 2;");
            return x;
        };
        refused("feed(';') of 240", full, x -> x.feed(';'), Due.FULL);
        refused("feed(0) of 240", full, x -> x.feed(0), Due.FULL);
        refused("feed(-1) of 240: OUTSIDE ahead of FULL", full, x -> x.feed(-1), Due.OUTSIDE);
        refused("feed(256) of 240: OUTSIDE ahead of FULL", full, x -> x.feed(256), Due.OUTSIDE);
    }

    private static void fullOwedAndBook() {
        Supplier<LullabyDebts> full = () -> {
            LullabyDebts x = Due.withRow("r2 9;s1 1 9 0;s0 1 5 0;c0 1 0;");
            for (int i = 0; i < 20; i++) {
                x.write(0, 18);
                x.owed(12, true);
            }
            x.sing(0, 0);
            return x;
        };
        Due.due("told(16)", full.get().told(16), 6);
        Due.due("told(17)", full.get().told(17), 20);
        refused("owed(99, true), the seventh", full, x -> x.owed(99, true), Due.FULL);
        refused("owed(0, false), the seventh", full, x -> x.owed(0, false), Due.FULL);
        refused("owed(199, true): OUTSIDE ahead of FULL", full, x -> x.owed(199, true), Due.OUTSIDE);
        refused("write(1, 3), the 21st", full, x -> x.write(1, 3), Due.FULL);
        refused("write(0, 198), the 21st", full, x -> x.write(0, 198), Due.FULL);
        refused("write(0, 199): OUTSIDE ahead of FULL", full, x -> x.write(0, 199), Due.OUTSIDE);
        refused("write(2, 18): UNKNOWN ahead of FULL", full, x -> x.write(2, 18), Due.UNKNOWN);
        refused("write(2, 199): UNKNOWN ahead of all", full, x -> x.write(2, 199), Due.UNKNOWN);
    }

    /** A refused deed takes no place among the thirty that can be undone. */
    private static void fullPast() {
        Supplier<LullabyDebts> full = () -> {
            LullabyDebts x = Due.withRow("r2 9;s1 1 9 0;s0 1 0 0;c0 1 0;c0 1 1;");
            x.evening(20);
            x.evening(20);
            x.sing(0, 0);
            return x;
        };
        Due.due("told(18)", full.get().told(18), 30);
        refused("go(0, 0)", full, x -> x.go(0, 0), Due.NOT);
        refused("go(0, 2)", full, x -> x.go(0, 2), Due.OUTSIDE);
        refused("sing(0, 0)", full, x -> x.sing(0, 0), Due.NOT);
        refused("sing(0, 1)", full, x -> x.sing(0, 1), Due.NOT);
        refused("carry(0, 1)", full, x -> x.carry(0, 1), Due.NOT);
        refused("carry(1, 1)", full, x -> x.carry(1, 1), Due.NOT);
        refused("evening(21)", full, x -> x.evening(21), Due.OUTSIDE);
        refused("drift(21)", full, x -> x.drift(21), Due.OUTSIDE);
        refused("undo(31)", full, x -> x.undo(31), Due.OUTSIDE);
        refused("goBack(0)", full, x -> x.goBack(0), Due.NOT);
    }

    private static LullabyDebts above9000() {
        LullabyDebts x = Due.withRow("r1 1;s0 1 1 0;c0 1 0;");
        for (int i = 0; i < 450; i++) {
            x.evening(20);
        }
        x.evening(1);
        return x;
    }

    private static void fullEvenings() {
        refusedAbove9000("evening(1)", x -> x.evening(1), Due.FULL);
        refusedAbove9000("evening(20)", x -> x.evening(20), Due.FULL);
        refusedAbove9000("evening(0): OUTSIDE ahead of FULL", x -> x.evening(0), Due.OUTSIDE);
        refusedAbove9000("evening(21): OUTSIDE ahead of FULL", x -> x.evening(21), Due.OUTSIDE);
        refusedAbove9000("drift(1)", x -> x.drift(1), Due.FULL);
        refusedAbove9000("drift(20)", x -> x.drift(20), Due.FULL);
        refusedAbove9000("drift(0): OUTSIDE ahead of FULL", x -> x.drift(0), Due.OUTSIDE);
        refusedAbove9000("drift(21): OUTSIDE ahead of FULL", x -> x.drift(21), Due.OUTSIDE);
    }

    private static void refusedAbove9000(String call, ToIntFunction<LullabyDebts> made, int refusal) {
        LullabyDebts with = above9000();
        LullabyDebts without = above9000();
        Due.due(call + " at 9001", made.applyAsInt(with), refusal);
        Due.dueSame(call + " at 9001 changed nothing", Snapshot.brief(with), Snapshot.brief(without));
    }

    /** "-10 less the number of its FAULT (all is as it was)": but for the text and the fault's letter. */
    private static void rowWithAFault() {
        String[] texts = {"x", "r1 1;s", "r0 1;", "r1 1;s0 1 9 0;c0 1 1;", "r1 1;r", "r1 1;s0 1 9 0;c0 1 0;" + "c0 1 0;".repeat(6)};
        int[] answers = {-11, -11, -12, -12, -13, -13};
        int[] letters = {0, 6, 1, 19, 5, 56};
        for (int i = 0; i < texts.length; i++) {
            LullabyDebts with = someNight();
            LullabyDebts without = someNight();
            with.row();
            without.row();
            Due.dueRow(with, texts[i], answers[i], letters[i]);
            // The fault's letter is the same again behind one more text with a fault.
            Due.dueRow(with, "r2;", -11, 2);
            Due.dueRow(without, "r2;", -11, 2);
            Due.dueSame("row() of '" + texts[i] + "' changed nothing", Snapshot.whole(with), Snapshot.whole(without));
        }
    }

    /** "TRIED from now, as nothing else is done; nothing changes by it." */
    private static void triedCallsChangeNothing() {
        LullabyDebts with = someNight();
        LullabyDebts without = someNight();
        for (int s = 0; s < 3; s++) {
            for (int c = 0; c < 4; c++) {
                with.steps(s, c);
                with.can(s, c);
                with.pays(s, c);
            }
            with.plan(s);
            with.round(s, 0);
            with.round(s, 1);
            with.singer(s, 6);
        }
        with.plan(-1);
        with.colic(60, 99);
        with.fault();
        with.couldBe();
        with.ask();
        with.judge();
        for (int what = 0; what <= 18; what++) {
            with.told(what);
        }
        Due.dueSame("what is tried changes nothing", Snapshot.whole(with), Snapshot.whole(without));
    }
}
