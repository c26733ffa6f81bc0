/** All that an object can be asked, as one text. The asking uses the object up: it undoes, goes back and reads the text. */
final class Snapshot {
    private final LullabyDebts x;
    private final StringBuilder text = new StringBuilder();

    private Snapshot(LullabyDebts x) {
        this.x = x;
    }

    static String whole(LullabyDebts x) {
        Snapshot of = new Snapshot(x);
        of.now();
        of.each();
        of.past();
        of.images();
        of.theText();
        return of.text.toString();
    }

    /** For objects that have few of their 512 calls left. */
    static String brief(LullabyDebts x) {
        Snapshot of = new Snapshot(x);
        of.now();
        of.put("undo(30)", x.undo(30));
        of.put("told(10)", x.told(10));
        return of.text.toString();
    }

    private void put(String call, int answer) {
        text.append(call).append(' ').append(answer).append('\n');
    }

    private void now() {
        int seed = x.seed(0);
        x.seed(seed);
        put("seed", seed);
        put("fault()", x.fault());
        for (int what = 0; what <= 18; what++) {
            put("told(" + what + ")", x.told(what));
        }
        put("couldBe()", x.couldBe());
        put("ask()", x.ask());
        put("judge()", x.judge());
    }

    private void each() {
        int singers = x.told(2);
        int children = x.told(3);
        for (int what = 0; what <= 6; what++) {
            for (int s = 0; s < singers; s++) {
                put("singer(" + s + ", " + what + ")", x.singer(s, what));
            }
            for (int c = 0; c < children; c++) {
                put("child(" + c + ", " + what + ")", x.child(c, what));
            }
        }
    }

    private void past() {
        int deeds = x.told(18);
        for (int i = 1; i <= deeds; i++) {
            put("undo(1), time " + i, x.undo(1));
            put("told(6)", x.told(6));
            put("told(10)", x.told(10));
            put("couldBe()", x.couldBe());
            put("judge()", x.judge());
        }
        put("undo(1) of none", x.undo(1));
    }

    private void images() {
        for (int i = 0; i < 2; i++) {
            put("goBack(" + i + ")", x.goBack(i));
            put("told(5)", x.told(5));
            put("told(9)", x.told(9));
            put("told(10)", x.told(10));
            put("seed", x.seed(0));
        }
    }

    private void theText() {
        put("row()", x.row());
        put("fault()", x.fault());
        for (int what = 0; what <= 3; what++) {
            put("told(" + what + ")", x.told(what));
        }
    }
}
