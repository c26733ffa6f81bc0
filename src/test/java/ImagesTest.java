/** Promises 26 to 28: seed, keep, goBack. */
public final class ImagesTest {
    public static void main(String[] args) {
        seeds();
        unknownImages();
        keepsAndGoesBack();
        twoImages();
        imagesWithoutARow();
        nothingCanBeUndone();
        Due.end("ImagesTest");
    }

    private static void seeds() {
        LullabyDebts x = new LullabyDebts();
        Due.due("seed(-1)", x.seed(-1), Due.OUTSIDE);
        Due.due("seed(least)", x.seed(Integer.MIN_VALUE), Due.OUTSIDE);
        Due.due("seed(greatest)", x.seed(Integer.MAX_VALUE), 0);
        Due.due("seed(7)", x.seed(7), Integer.MAX_VALUE);
        Due.due("seed(-5)", x.seed(-5), Due.OUTSIDE);
        Due.due("seed(0)", x.seed(0), 7);
        LullabyDebts y = Due.withRow("r1 1;s0 1 5 0;c0 1 0;");
        y.seed(Integer.MAX_VALUE);
        y.drift(1);
        long state = Integer.MAX_VALUE;
        for (int i = 0; i < 3; i++) {
            state = (state * 1103515245L + 12345L) % 2147483648L;
        }
        Due.due("the seed of three draws", y.seed(0), state);
    }

    private static void unknownImages() {
        LullabyDebts x = Due.withRow("r1 1;");
        Due.due("keep(-1)", x.keep(-1), Due.UNKNOWN);
        Due.due("keep(2)", x.keep(2), Due.UNKNOWN);
        Due.due("goBack(-1)", x.goBack(-1), Due.UNKNOWN);
        Due.due("goBack(2)", x.goBack(2), Due.UNKNOWN);
        Due.due("goBack(0)", x.goBack(0), Due.NOT);
        Due.due("goBack(1)", x.goBack(1), Due.NOT);
        x.keep(0);
        Due.due("goBack(1)", x.goBack(1), Due.NOT);
        Due.due("goBack(0)", x.goBack(0), 1);
    }

    private static void keepsAndGoesBack() {
        LullabyDebts x = Due.withRow("r3 9;s0 49 9 1;c3 4 1;c1 9 2;");
        x.seed(12);
        x.sing(0, 0);
        x.go(0, 2);
        x.sing(0, 1);
        Due.due("keep(0)", x.keep(0), 1);
        x.owed(3, true);
        x.write(0, 2);
        x.carry(1, -1);
        x.seed(99);
        x.evening(20);
        x.sing(0, 0);
        Due.due("told(8) ahead", x.told(8), 1);
        Due.due("goBack(0)", x.goBack(0), 1);
        Due.dueTold("back", x, 3, 9, 1, 2, 0, 0, 2, 0, 0, 1, 2, 0, 1, 1, 0, 0, 1, 1, 0);
        Due.dueSinger("back", x, 0, 0, 49, 2, 2, 0, 1, 1);
        Due.dueChild("back", x, 0, 3, 4, 1, 0, 4, 1, 0);
        Due.dueChild("back", x, 1, 1, 9, 2, 1, 4, 0, 14);
        Due.due("the seed is back", x.seed(5), 12);
        x.evening(1);
        Due.due("goBack(0) again", x.goBack(0), 1);
        Due.due("the image was not changed", x.told(5), 0);
        Due.due("the seed is back again", x.seed(5), 12);
    }

    private static void twoImages() {
        LullabyDebts x = Due.withRow("r3 9;s0 49 9 1;c3 4 1;");
        x.keep(0);
        x.evening(2);
        x.keep(1);
        x.evening(3);
        x.goBack(0);
        Due.due("image 0", x.told(5), 0);
        x.goBack(1);
        Due.due("image 1", x.told(5), 2);
        x.keep(0);
        x.evening(1);
        x.goBack(0);
        Due.due("image 0 kept anew", x.told(5), 2);
    }

    private static void imagesWithoutARow() {
        LullabyDebts x = new LullabyDebts();
        x.seed(3);
        Due.due("keep(0)", x.keep(0), 1);
        x.seed(4);
        Due.due("goBack(0)", x.goBack(0), 1);
        Due.due("the seed", x.seed(3), 3);
        Due.due("told(0)", x.told(0), 0);
        Due.dueRow(x, "r1 1;", 0, Due.NONE);
        Due.due("goBack(0)", x.goBack(0), Due.NOT);
    }

    private static void nothingCanBeUndone() {
        LullabyDebts x = Due.withRow("r3 9;s0 49 9 1;c3 4 1;");
        x.evening(3);
        x.keep(0);
        Due.due("told(18) behind keep", x.told(18), 0);
        Due.due("undo(1) behind keep", x.undo(1), Due.NOT);
        x.evening(2);
        Due.due("told(18)", x.told(18), 2);
        x.goBack(0);
        Due.due("told(18) behind goBack", x.told(18), 0);
        Due.due("undo(1) behind goBack", x.undo(1), Due.NOT);
        x.evening(1);
        Due.due("undo(1)", x.undo(1), 3);
        Due.due("keep(5)", x.keep(5), Due.UNKNOWN);
        x.evening(1);
        Due.due("goBack(1)", x.goBack(1), Due.NOT);
        Due.due("told(18) behind refusals", x.told(18), 1);
    }
}
