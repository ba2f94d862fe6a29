/** Promises 1 to 3: a new object, feed, row. */
public final class FillTest {
    private static final Checks CHECKS = new Checks("FillTest");

    public static void main(String[] args) {
        newObject();
        piecesOfANewObject();
        feed();
        firstRowIsWrittenByteForByte();
        secondRowAndTheTurnOfTheFiles();
        rowRefused();
        rowBehindAStripeThatIsNotGood();
        rowTakesAForgedEmptyPiece();
        rowBehindADroppedRow();
        CHECKS.end();
    }

    private static void newObject() {
        ThreeFiles x = new ThreeFiles(4);
        for (int file = 0; file < 3; file++) {
            CHECKS.due("size of a new file", x.size(file), 0);
            CHECKS.due("same of a new file", x.same(file), true);
        }
        CHECKS.due("odd(0) of a new one", x.odd(0), -1);
        CHECKS.due("find(0, 0) of a new one", x.find(0, 0), -1);
        CHECKS.due("mended() of a new one", x.mended(), 0);
        CHECKS.due("a new one is open", Checks.add(x, 1, "a"), 0);
    }

    private static void piecesOfANewObject() {
        int[] asked = {1, 2, 63, 64, 0, -1, 65, Integer.MAX_VALUE, Integer.MIN_VALUE};
        int[] due = {1, 2, 63, 64, 1, 1, 1, 1, 1};
        for (int k = 0; k < asked.length; k++) {
            ThreeFiles x = new ThreeFiles(asked[k]);
            for (int row = 0; row < 2 * due[k]; row++) {
                CHECKS.due("row " + row + " of ThreeFiles(" + asked[k] + ")", Checks.add(x, 1, "r"), row);
            }
            CHECKS.due("a row too many of ThreeFiles(" + asked[k] + ")", Checks.add(x, 1, "r"), -1);
            CHECKS.due("size(0) of a full one", x.size(0), 24 * due[k]);
            CHECKS.due("the last byte a file may have", x.byteAt(2, due[k] - 1, 0), due[k] - 1);
        }
    }

    private static void feed() {
        ThreeFiles x = new ThreeFiles(1);
        CHECKS.due("feed(-1)", x.feed(-1), false);
        CHECKS.due("feed(256)", x.feed(256), false);
        CHECKS.due("feed(MAX)", x.feed(Integer.MAX_VALUE), false);
        CHECKS.due("feed(MIN)", x.feed(Integer.MIN_VALUE), false);
        CHECKS.due("row(1) with nothing fed", x.row(1), -1);
        CHECKS.due("feed(0)", x.feed(0), true);
        CHECKS.due("feed(255)", x.feed(255), true);
        for (int k = 2; k < 16; k++) {
            CHECKS.due("feed(" + k + ")", x.feed(k), true);
        }
        CHECKS.due("the 17th feed", x.feed(77), false);
        CHECKS.due("row(1)", x.row(1), 0);
        CHECKS.due("find(0, 0)", x.find(0, 0), 0);
        CHECKS.due("find(0, 1)", x.find(0, 1), 255);
        CHECKS.due("find(0, 15)", x.find(0, 15), 15);
        CHECKS.due("row(1) with none fed behind a row", x.row(1), -1);
        x.lose(0);
        CHECKS.due("feed(9) while closed", x.feed(9), true);
        x.reopen();
        CHECKS.due("row(1) of what was fed while closed", x.row(1), 1);
        CHECKS.due("find(1, 0)", x.find(1, 0), 9);
        CHECKS.due("find(1, 1)", x.find(1, 1), -1);
    }

    private static void firstRowIsWrittenByteForByte() {
        ThreeFiles x = new ThreeFiles(3);
        Checks.add(x, 100, "abc");
        CHECKS.duePiece(x, 0, 0, 0, 0, 0, 100, 3, 97, 98, 99, 0, 0, 0, 0, 0, 0, 0, 0, 0, 0, 0, 0, 0, 9, 205, 22, 59);
        CHECKS.duePiece(x, 1, 0, 0, 0, 0, 100, 3, 97, 98, 99, 0, 0, 0, 0, 0, 0, 0, 0, 0, 0, 0, 0, 0, 92, 184, 46, 127);
        CHECKS.duePiece(x, 2, 0, 0, 0, 0, 0, 0, 0, 0, 0, 0, 0, 0, 0, 0, 0, 0, 0, 0, 0, 0, 0, 0, 200, 1, 69, 35);
    }

    private static void secondRowAndTheTurnOfTheFiles() {
        ThreeFiles x = new ThreeFiles(4);
        for (int stripe = 0; stripe < 4; stripe++) {
            CHECKS.due("first row", Checks.add(x, 3, "long text, first"), 2 * stripe);
            CHECKS.due("size behind a first row", x.size(0), 24 * stripe + 24);
            CHECKS.due("second row", Checks.add(x, 5, "x"), 2 * stripe + 1);
            CHECKS.due("size behind a second row", x.size(2), 24 * stripe + 24);
            CHECKS.duePiece(x, (stripe + 1) % 3, stripe, 0, stripe, 0, 3, 16, 'l', 'o', 'n');
            CHECKS.duePiece(x, (stripe + 2) % 3, stripe, 0, stripe, 0, 5, 1, 'x', 0, 0);
            CHECKS.duePiece(x, stripe % 3, stripe, 0, stripe, 0, 3 ^ 5, 16 ^ 1, 'l' ^ 'x', 'o', 'n');
            for (int file = 0; file < 3; file++) {
                int s = Checks.sum(x, file, stripe);
                CHECKS.duePiece(x, file, stripe, 20, s & 255, s >>> 8 & 255, s >>> 16 & 255, s >>> 24);
            }
        }
        CHECKS.due("mended() counts no writes", x.mended(), 0);
    }

    private static void rowRefused() {
        ThreeFiles x = new ThreeFiles(1);
        x.feed(65);
        int[] years = {0, -1, 101, 255, Integer.MAX_VALUE, Integer.MIN_VALUE};
        for (int year : years) {
            CHECKS.due("row(" + year + ")", x.row(year), -1);
        }
        CHECKS.due("row(1)", x.row(1), 0);
        x.poke(0, 0, 1);
        x.feed(66);
        CHECKS.due("row(1) while closed", x.row(1), -1);
        x.reopen();
        CHECKS.due("row(100) keeps what was fed", x.row(100), 1);
        CHECKS.due("find(1, 0)", x.find(1, 0), 66);
        x.feed(67);
        CHECKS.due("row(1) without room", x.row(1), -1);
        CHECKS.due("size(0) without room", x.size(0), 24);
        x.lose(0);
        x.lose(1);
        x.lose(2);
        x.reopen();
        CHECKS.due("row(1) with room again", x.row(1), 0);
        CHECKS.due("find(0, 0) of what stayed fed", x.find(0, 0), 67);
    }

    private static void rowBehindAStripeThatIsNotGood() {
        ThreeFiles x = Checks.filled(2, 1);
        x.poke(0, 5, 1);
        x.poke(1, 5, 1);
        x.reopen();
        CHECKS.due("row(1) behind a bad stripe", Checks.add(x, 1, "n"), 2);
        CHECKS.due("find(2, 0)", x.find(2, 0), 'n');
        CHECKS.due("badAt()", x.badAt(), 1);
    }

    private static void rowTakesAForgedEmptyPiece() {
        ThreeFiles x = Checks.filled(2, 2);
        Checks.forge(x, 2, 0, 2, 2);
        x.reopen();
        CHECKS.due("find(1, 0) of a row of year 0 with a length", x.find(1, 0), 'b');
        CHECKS.due("row(1) in its place", Checks.add(x, 9, "n"), 1);
        CHECKS.due("find(1, 0)", x.find(1, 0), 'n');
        CHECKS.duePiece(x, 0, 0, 2, 1 ^ 9, 0, 'a' ^ 'n');
    }

    private static void rowBehindADroppedRow() {
        ThreeFiles x = Checks.filled(2, 2);
        x.drop(2);
        CHECKS.due("row(1) behind a dropped row", Checks.add(x, 1, "n"), 2);
    }
}
