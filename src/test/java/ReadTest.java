/** Promises 4, 5, 13, 14, 16 and 17: find, rows, badAt, byteAt, odd, size. */
public final class ReadTest {
    private static final Checks CHECKS = new Checks("ReadTest");
    private static final int[] NO_FILES = {-1, 3, Integer.MAX_VALUE, Integer.MIN_VALUE};

    public static void main(String[] args) {
        find();
        findWithoutOnePiece();
        findOfForgedLengths();
        aCutByteIsNoZero();
        rows();
        rowsCountNoSumPieces();
        badAt();
        byteAt();
        byteAtThrows();
        odd();
        size();
        CHECKS.end();
    }

    private static void find() {
        ThreeFiles x = new ThreeFiles(3);
        Checks.add(x, 1, "abc");
        CHECKS.due("find(0, 0)", x.find(0, 0), 'a');
        CHECKS.due("find(0, 2)", x.find(0, 2), 'c');
        CHECKS.due("find(0, 3)", x.find(0, 3), -1);
        CHECKS.due("find(0, -1)", x.find(0, -1), -1);
        CHECKS.due("find(0, MAX)", x.find(0, Integer.MAX_VALUE), -1);
        CHECKS.due("find(0, MIN)", x.find(0, Integer.MIN_VALUE), -1);
        CHECKS.due("find of an empty piece", x.find(1, 0), -1);
        CHECKS.due("find(2, 0)", x.find(2, 0), -1);
        CHECKS.due("find(6, 0)", x.find(6, 0), -1);
        CHECKS.due("find(-1, 0)", x.find(-1, 0), -1);
        CHECKS.due("find(MAX, 0)", x.find(Integer.MAX_VALUE, 0), -1);
        CHECKS.due("find(MIN, 0)", x.find(Integer.MIN_VALUE, 0), -1);
        x.drop(1);
        CHECKS.due("find of a dropped row", x.find(0, 0), -1);
    }

    private static void findWithoutOnePiece() {
        for (int lost = 0; lost < 3; lost++) {
            ThreeFiles x = Checks.filled(4, 8);
            x.lose(lost);
            for (int row = 0; row < 8; row++) {
                CHECKS.due("find(" + row + ", 0) without file " + lost, x.find(row, 0), 'a' + row);
                CHECKS.due("find(" + row + ", 1) without file " + lost, x.find(row, 1), -1);
            }
        }
        ThreeFiles x = Checks.filled(2, 4);
        x.poke(1, 4, 1);
        x.poke(2, 4, 1);
        CHECKS.due("find(0, 0) with two bad pieces", x.find(0, 0), -1);
        CHECKS.due("find(2, 0) of the good stripe", x.find(2, 0), 'c');
        x.poke(2, 4, 1);
        CHECKS.due("find(0, 0) with one bad piece", x.find(0, 0), 'a');
        x.crash(0, 23);
        CHECKS.due("find(0, 0) with one cut and one bad", x.find(0, 0), -1);
        CHECKS.due("find(1, 0) of the good one among two bad", x.find(1, 0), 'b');
    }

    private static void findOfForgedLengths() {
        ThreeFiles x = Checks.filled(1, 2);
        Checks.forge(x, 1, 0, 3, 255 ^ 1);
        CHECKS.due("find(0, 0) of length 255", x.find(0, 0), 'a');
        CHECKS.due("find(0, 15) of length 255", x.find(0, 15), 0);
        CHECKS.due("find(0, 16) of length 255", x.find(0, 16), -1);
        Checks.forge(x, 1, 0, 0, 1);
        CHECKS.due("a wrong number is not good: as the others make it", x.find(0, 15), -1);
        x.poke(2, 0, 1);
        CHECKS.due("a wrong number is not good: not readable", x.find(0, 0), -1);
        Checks.forge(x, 1, 0, 0, 1);
        Checks.forge(x, 1, 0, 1, 1);
        CHECKS.due("a wrong high byte of the number", x.find(0, 0), -1);
    }

    /** A byte that is cut off reads 0, but a piece without it is not good, even if it was 0. */
    private static void aCutByteIsNoZero() {
        int tried = 0;
        ThreeFiles x;
        do {
            x = new ThreeFiles(1);
            Checks.add(x, 1, "a" + (char) (tried % 256) + (char) (tried / 256));
            tried++;
        } while (x.byteAt(1, 0, 23) != 0 && tried < 65536);
        CHECKS.due("a piece whose last byte is 0", x.byteAt(1, 0, 23), 0);
        x.poke(0, 4, 1);
        CHECKS.due("find(0, 0) of the whole piece", x.find(0, 0), 'a');
        x.crash(1, 23);
        CHECKS.due("find(0, 0) of the cut piece", x.find(0, 0), -1);
        CHECKS.due("badAt() with the cut piece", x.badAt(), 1);
    }

    private static void rows() {
        ThreeFiles x = new ThreeFiles(4);
        CHECKS.due("rows(1) of none", x.rows(1), 0);
        Checks.add(x, 1, "a");
        Checks.add(x, 100, "b");
        Checks.add(x, 1, "c");
        CHECKS.due("rows(1)", x.rows(1), 2);
        CHECKS.due("rows(100)", x.rows(100), 1);
        CHECKS.due("rows(2)", x.rows(2), 0);
        CHECKS.due("rows(0): the empty piece does not count", x.rows(0), 0);
        CHECKS.due("rows(-1)", x.rows(-1), 0);
        CHECKS.due("rows(101)", x.rows(101), 0);
        CHECKS.due("rows(MIN)", x.rows(Integer.MIN_VALUE), 0);
        x.lose(1);
        CHECKS.due("rows(1) without file 1", x.rows(1), 2);
        x.poke(2, 25, 1);
        CHECKS.due("rows(1) when stripe 1 has two bad", x.rows(1), 1);
        x.reopen();
        x.drop(100);
        CHECKS.due("rows(100) behind drop", x.rows(100), 0);
        CHECKS.due("rows(255): dropped ones do not count", x.rows(255), 0);
        Checks.forge(x, 1, 0, 2, 1 ^ 101);
        CHECKS.due("rows(101) of a forged year", x.rows(101), 0);
    }

    private static void rowsCountNoSumPieces() {
        ThreeFiles x = new ThreeFiles(2);
        Checks.add(x, 4, "a");
        CHECKS.due("the sum piece has year 4 too", x.byteAt(0, 0, 2), 4);
        CHECKS.due("rows(4)", x.rows(4), 1);
    }

    private static void badAt() {
        ThreeFiles x = Checks.filled(4, 8);
        CHECKS.due("badAt() of a good one", x.badAt(), 0);
        x.poke(0, 24 * 3, 1);
        CHECKS.due("badAt() with one bad", x.badAt(), 0);
        x.crash(1, 24 * 3 + 23);
        CHECKS.due("badAt() with two bad in the last stripe", x.badAt(), 4);
        x.poke(0, 24 + 23, 128);
        x.poke(2, 24 + 20, 1);
        CHECKS.due("badAt() is the first", x.badAt(), 2);
        x.lose(0);
        x.lose(1);
        CHECKS.due("badAt() with two files lost", x.badAt(), 1);
        x.lose(2);
        CHECKS.due("badAt() of no stripes", x.badAt(), 0);
        ThreeFiles all = Checks.filled(1, 2);
        all.poke(0, 7, 1);
        all.poke(1, 7, 1);
        all.poke(2, 7, 1);
        CHECKS.due("badAt() with three bad", all.badAt(), 1);
    }

    private static void byteAt() {
        ThreeFiles x = Checks.filled(2, 1);
        CHECKS.duePiece(x, 1, 0, 2, 1, 1, 'a', 0);
        CHECKS.duePiece(x, 1, 1, 0, 0, 0, 0, 0);
        x.poke(1, 4, 255);
        CHECKS.due("byteAt(1, 0, 4) as it stands", x.byteAt(1, 0, 4), 'a' ^ 255);
        x.crash(1, 4);
        CHECKS.due("byteAt(1, 0, 3) before the cut", x.byteAt(1, 0, 3), 1);
        CHECKS.due("byteAt(1, 0, 4) behind the cut", x.byteAt(1, 0, 4), 0);
        CHECKS.due("byteAt(1, 0, 23) behind the cut", x.byteAt(1, 0, 23), 0);
    }

    private static void byteAtThrows() {
        ThreeFiles x = Checks.filled(3, 2);
        for (int file : NO_FILES) {
            dueThrow(x, file, 0, 0);
        }
        int[] noPieces = {-1, 3, 64, Integer.MAX_VALUE, Integer.MIN_VALUE};
        for (int piece : noPieces) {
            dueThrow(x, 0, piece, 0);
        }
        int[] noBytes = {-1, 24, 48, Integer.MAX_VALUE, Integer.MIN_VALUE};
        for (int i : noBytes) {
            dueThrow(x, 0, 0, i);
        }
        CHECKS.due("byteAt(2, 2, 23), the last there may be", x.byteAt(2, 2, 23), 0);
    }

    private static void dueThrow(ThreeFiles x, int file, int piece, int i) {
        String call = "byteAt(" + file + ", " + piece + ", " + i + ")";
        boolean thrown = false;
        try {
            x.byteAt(file, piece, i);
        } catch (ArrayIndexOutOfBoundsException e) {
            thrown = true;
            // The machine's own exception would come from a line without a throw statement and
            // tell an index; the program's is a written text.
            CHECKS.due(call + " is thrown by byteAt itself",
                    e.getStackTrace()[0].getMethodName().equals("byteAt")
                            && !String.valueOf(e.getMessage()).startsWith("Index "), true);
        }
        CHECKS.due(call + " throws", thrown, true);
    }

    private static void odd() {
        ThreeFiles x = Checks.filled(5, 9);
        for (int stripe = 0; stripe < 5; stripe++) {
            CHECKS.due("odd(" + stripe + ")", x.odd(stripe), stripe % 3);
        }
        CHECKS.due("odd(5)", x.odd(5), -1);
        CHECKS.due("odd(-1)", x.odd(-1), -1);
        CHECKS.due("odd(MAX)", x.odd(Integer.MAX_VALUE), -1);
        CHECKS.due("odd(MIN)", x.odd(Integer.MIN_VALUE), -1);
        x.lose(0);
        x.crash(1, 119);
        CHECKS.due("odd(4) while one file has it whole", x.odd(4), 1);
        x.crash(2, 119);
        CHECKS.due("odd(4) while no file has it whole", x.odd(4), -1);
        CHECKS.due("odd(3)", x.odd(3), 0);
    }

    private static void size() {
        ThreeFiles x = Checks.filled(5, 3);
        for (int file = 0; file < 3; file++) {
            CHECKS.due("size(" + file + ")", x.size(file), 48);
        }
        for (int file : NO_FILES) {
            CHECKS.due("size(" + file + ")", x.size(file), -1);
            CHECKS.due("same(" + file + ")", x.same(file), false);
        }
        x.crash(1, 47);
        CHECKS.due("size(1) behind crash", x.size(1), 47);
        x.lose(2);
        CHECKS.due("size(2) behind lose", x.size(2), 0);
        CHECKS.due("size(0)", x.size(0), 48);
    }
}
