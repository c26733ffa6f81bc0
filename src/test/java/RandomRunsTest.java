/** Drawn runs of at most 512 calls, each answer compared with the slow model's. The draws are always the same. */
public final class RandomRunsTest {
    private static final int RUNS = 1500;
    private static final int MOST_CALLS = 512;
    private static final int[] FAR = {Integer.MIN_VALUE, Integer.MAX_VALUE, -1, -2, 7, 199, 1000, -1000000001};

    private LullabyDebts program;
    private SlowModel model;
    private long state;
    private int calls;
    private int run;

    public static void main(String[] args) {
        RandomRunsTest test = new RandomRunsTest();
        for (int run = 1; run <= RUNS; run++) {
            test.run(run);
        }
        Due.end("RandomRunsTest");
    }

    private void run(int number) {
        run = number;
        state = number * 7919L;
        calls = 0;
        program = new LullabyDebts();
        model = new SlowModel();
        int rowsRarely = die(4) > 0 ? 300 : 12;
        while (calls < MOST_CALLS) {
            if (calls == 0 && die(8) > 0 || die(rowsRarely) == 0) {
                tellRow();
            } else if (die(60) == 0) {
                tellAll();
            } else {
                anyCall();
            }
        }
    }

    private int die(int n) {
        state = state * 6364136223846793005L + 1442695040888963407L;
        return (int) ((state >>> 33) % n);
    }

    private void due(String call, int got, int want) {
        calls++;
        Due.due("run " + run + ", call " + calls + ": " + call, got, want);
    }

    private void tellRow() {
        String text = drawText();
        for (int i = 0; i < text.length() && i < 240; i++) {
            due("feed", program.feed(text.charAt(i)), model.feed(text.charAt(i)));
            if (calls >= MOST_CALLS - 2) {
                return;
            }
        }
        due("row() of '" + text + "'", program.row(), model.row());
        due("fault() of '" + text + "'", program.fault(), model.fault());
    }

    private String drawText() {
        int houses = die(3) == 0 ? 1 + die(20) : 1 + die(6);
        StringBuilder text = new StringBuilder();
        text.append("r").append(houses).append(" ").append(die(3) == 0 ? 1 + die(6) : 1 + die(30)).append(";");
        int singers = die(7);
        int children = die(7);
        while (singers + children > 0) {
            if (die(singers + children) < singers) {
                singers--;
                int age = die(3) == 0 ? 1 + die(60) : 45 + die(6);
                int owes = die(2) == 0 ? die(100) : die(9);
                text.append("s").append(die(4)).append(" ").append(age).append(" ").append(owes);
            } else {
                children--;
                text.append("c").append(die(4)).append(" ").append(die(2) == 0 ? 1 + die(20) : 1 + die(4));
            }
            text.append(" ").append(die(houses)).append(";");
        }
        int spoilt = die(4) == 0 ? 1 + die(3) : 0;
        for (int i = 0; i < spoilt; i++) {
            spoil(text);
        }
        return text.toString();
    }

    private void spoil(StringBuilder text) {
        String letters = "rsc;0123456789 ;;  x" + (char) 9 + (char) 233;
        char letter = letters.charAt(die(letters.length()));
        int at = text.length() == 0 ? 0 : die(text.length());
        switch (die(5)) {
            case 0:
                text.insert(at, letter);
                break;
            case 1:
                text.setLength(at);
                break;
            case 2:
                text.append("s0 1 0 0;c0 1 0;s0 1 0 0;c0 1 0;s0 1 0 0;c0 1 0;");
                break;
            default:
                if (text.length() > 0) {
                    text.setCharAt(at, letter);
                }
                break;
        }
    }

    private void tellAll() {
        for (int what = 0; what < 19 && calls < MOST_CALLS; what++) {
            due("told(" + what + ")", program.told(what), model.told(what));
        }
        for (int i = 0; i < 42 && calls < MOST_CALLS; i++) {
            due("singer(" + i / 7 + ", " + i % 7 + ")", program.singer(i / 7, i % 7), model.singer(i / 7, i % 7));
        }
        for (int i = 0; i < 42 && calls < MOST_CALLS; i++) {
            due("child(" + i / 7 + ", " + i % 7 + ")", program.child(i / 7, i % 7), model.child(i / 7, i % 7));
        }
    }

    /** A number from 0 to n less 1; now and then one that is far out. */
    private int about(int n) {
        return die(40) == 0 ? FAR[die(FAR.length)] : die(n);
    }

    private void anyCall() {
        int which = die(100);
        if (which < 45) {
            deed(which);
        } else if (which < 80) {
            tried(which);
        } else {
            other(which);
        }
    }

    private void deed(int which) {
        int s = about(6);
        int c = about(6);
        if (which < 10) {
            int house = die(2) == 0 ? Math.max(0, model.child(c, 2)) : about(8);
            due("go(" + s + ", " + house + ")", program.go(s, house), model.go(s, house));
        } else if (which < 22) {
            due("sing(" + s + ", " + c + ")", program.sing(s, c), model.sing(s, c));
        } else if (which < 27) {
            int way = die(20) == 0 ? about(3) : die(2) * 2 - 1;
            due("carry(" + c + ", " + way + ")", program.carry(c, way), model.carry(c, way));
        } else if (which < 33) {
            int n = die(3) == 0 ? about(23) : 1 + die(3);
            due("evening(" + n + ")", program.evening(n), model.evening(n));
        } else if (which < 38) {
            int n = die(3) == 0 ? about(23) : 1 + die(3);
            due("drift(" + n + ")", program.drift(n), model.drift(n));
        } else {
            int n = die(3) == 0 ? about(33) : 1 + die(3);
            due("undo(" + n + ")", program.undo(n), model.undo(n));
        }
    }

    private void tried(int which) {
        int s = about(6);
        int c = about(6);
        if (which < 50) {
            due("steps(" + s + ", " + c + ")", program.steps(s, c), model.steps(s, c));
        } else if (which < 56) {
            due("can(" + s + ", " + c + ")", program.can(s, c), model.can(s, c));
        } else if (which < 62) {
            due("pays(" + s + ", " + c + ")", program.pays(s, c), model.pays(s, c));
        } else if (which < 68) {
            int who = about(7) - 1;
            due("plan(" + who + ")", program.plan(who), model.plan(who));
        } else if (which < 73) {
            int what = die(15) == 0 ? about(3) : die(2);
            due("round(" + s + ", " + what + ")", program.round(s, what), model.round(s, what));
        } else if (which < 75) {
            int n = about(62);
            int q = die(2) == 0 ? about(102) : 95 + die(6);
            due("colic(" + n + ", " + q + ")", program.colic(n, q), model.colic(n, q));
        } else {
            int what = about(20);
            due("told(" + what + ")", program.told(what), model.told(what));
        }
    }

    private void other(int which) {
        int s = about(6);
        if (which < 83) {
            int v = die(2) == 0 ? about(200) : die(12);
            boolean is = die(2) == 0;
            due("owed(" + v + ", " + is + ")", program.owed(v, is), model.owed(v, is));
        } else if (which < 85) {
            due("couldBe()", program.couldBe(), model.couldBe());
        } else if (which < 87) {
            due("ask()", program.ask(), model.ask());
        } else if (which < 90) {
            int v = die(4) == 0 ? about(200) : Math.max(0, model.singer(s, 2));
            due("write(" + s + ", " + v + ")", program.write(s, v), model.write(s, v));
        } else if (which < 92) {
            due("judge()", program.judge(), model.judge());
        } else if (which < 93) {
            if (die(3) == 0) {
                due("tear()", program.tear(), model.tear());
            }
        } else if (which < 94) {
            int v = die(2) == 0 ? about(9) : die(Integer.MAX_VALUE);
            due("seed(" + v + ")", program.seed(v), model.seed(v));
        } else if (which < 96) {
            int i = about(2);
            due("keep(" + i + ")", program.keep(i), model.keep(i));
        } else if (which < 98) {
            int i = about(2);
            due("goBack(" + i + ")", program.goBack(i), model.goBack(i));
        } else {
            int what = about(8);
            due("singer(" + s + ", " + what + ")", program.singer(s, what), model.singer(s, what));
            if (calls < MOST_CALLS) {
                due("child(" + s + ", " + what + ")", program.child(s, what), model.child(s, what));
            }
        }
    }
}
