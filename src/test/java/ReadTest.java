/** Promises 4, 5, 13, 14, 16 and 17: find, rows, badAt, byteAt, odd, size. */
public final class ReadTest {
    private static final Checks CHECKS = new Checks("ReadTest");

    public static void main(String[] args) {
        findAnswersAByte();
        findAsItCanBeReadNow();
        findOfNoSuchRow();
        findOfARowThatIsNotReadable();
        findOfNoSuchByte();
        findBehindTheLength();
        findOfLengthsUpTo255();
        findOfARowWithoutBytes();
        rowsOfAYear();
        rowsThatCanBeReadNow();
        rowsCountPiecesOfRowsAlone();
        rowsOfOtherYears();
        badAtTellsTheFirst();
        badAtOfTwoOrMore();
        badAtWhenThereIsNone();
        byteAtOfAPiece();
        byteAtOfNoSuchByteOfTheFile();
        byteAtOfNoSuchFile();
        byteAtOfNoSuchPiece();
        byteAtOfNoSuchByte();
        oddOfAStripe();
        oddOfNoSuchStripe();
        sizeOfAFile();
        sizeOfNoSuchFile();
        CHECKS.end();
    }

    private static void findAnswersAByte() {
        CHECKS.sentence("Promise 4", "Byte i of a row, 0 .. 255");
        ThreeFiles x = new ThreeFiles(2);
        int[] bytes = {0, 255, 128, 127, 1, 254, 7, 8, 9, 10, 11, 12, 13, 14, 15, 200};
        for (int row = 0; row < 4; row++) {
            for (int b : bytes) {
                x.feed(b ^ row);
            }
            x.row(1);
        }
        for (int row = 0; row < 4; row++) {
            for (int i = 0; i < 16; i++) {
                CHECKS.due("find(" + row + ", " + i + ")", x.find(row, i), bytes[i] ^ row);
            }
        }
    }

    private static void findAsItCanBeReadNow() {
        CHECKS.sentence("Promise 4", "as its piece can be read now");
        for (int lost = 0; lost < 3; lost++) {
            ThreeFiles x = Checks.filled(4, 8);
            x.lose(lost);
            for (int row = 0; row < 8; row++) {
                CHECKS.due("find(" + row + ", 0) without file " + lost, x.find(row, 0), 'a' + row);
                CHECKS.due("find(" + row + ", 1) without file " + lost, x.find(row, 1), -1);
            }
        }
        ThreeFiles x = Checks.filled(2, 4);
        Checks.spoil(x, 1, 0);
        CHECKS.due("find(0, 0) with one bad piece", x.find(0, 0), 'a');
        Checks.spoil(x, 2, 0);
        CHECKS.due("find(0, 0) with two bad pieces", x.find(0, 0), -1);
        Checks.spoil(x, 2, 0);
        CHECKS.due("find(0, 0) with one bad piece again", x.find(0, 0), 'a');
        Checks.forge(x, 1, 0, 4, 3);
        CHECKS.due("find(0, 0) of a piece that is altered with its sum", x.find(0, 0), 'a' ^ 3);
    }

    private static void findOfNoSuchRow() {
        CHECKS.sentence("Promise 4", "NONE when there is none such");
        ThreeFiles x = Checks.filled(3, 3);
        for (int row : new int[] {4, 5, 6, 128, -1, -2, -4, Checks.MAX, Checks.MIN}) {
            CHECKS.due("find(" + row + ", 0)", x.find(row, 0), -1);
        }
        x.crash(0, 47);
        x.crash(1, 47);
        x.crash(2, 47);
        CHECKS.due("find(2, 0) of a stripe that is gone", x.find(2, 0), -1);
        CHECKS.due("find(1, 0) of one that is not", x.find(1, 0), 'b');
    }

    private static void findOfARowThatIsNotReadable() {
        CHECKS.sentence("Promise 4", "(of a row that is not readable");
        for (int bits = 0; bits < 8; bits++) {
            ThreeFiles x = Checks.filled(2, 4);
            Checks.spoilBits(x, bits, 0);
            CHECKS.due("find(0, 0) with bits " + bits + " not good", x.find(0, 0), (bits & 2) == 0 || bits == 2 ? 'a' : -1);
            CHECKS.due("find(1, 0) with bits " + bits + " not good", x.find(1, 0), (bits & 4) == 0 || bits == 4 ? 'b' : -1);
            CHECKS.due("find(2, 0) of the good stripe", x.find(2, 0), 'c');
        }
        ThreeFiles cut = Checks.filled(1, 2);
        Checks.spoil(cut, 1, 0);
        cut.crash(0, 23);
        CHECKS.due("find(0, 0) with one cut and one bad", cut.find(0, 0), -1);
        CHECKS.due("find(1, 0) of the good one", cut.find(1, 0), 'b');
    }

    private static void findOfNoSuchByte() {
        CHECKS.sentence("Promise 4", "i is not 0 .. 15");
        ThreeFiles x = new ThreeFiles(1);
        Checks.add(x, 1, "0123456789abcdef");
        Checks.add(x, 1, "0123456789abcdef");
        CHECKS.due("find(0, 0)", x.find(0, 0), '0');
        CHECKS.due("find(0, 15)", x.find(0, 15), 'f');
        for (int i : new int[] {16, 17, -1, -4, 20, 24, 256, Checks.MAX, Checks.MIN}) {
            CHECKS.due("find(0, " + i + ")", x.find(0, i), -1);
            CHECKS.due("find(1, " + i + ")", x.find(1, i), -1);
        }
    }

    private static void findBehindTheLength() {
        CHECKS.sentence("Promise 4", "or not less than its length");
        for (int length = 1; length <= 16; length++) {
            ThreeFiles x = new ThreeFiles(1);
            Checks.add(x, 1, "0123456789abcdef".substring(0, length));
            CHECKS.due("find(0, " + (length - 1) + ")", x.find(0, length - 1), "0123456789abcdef".charAt(length - 1));
            CHECKS.due("find(0, " + length + ") of length " + length, x.find(0, length), -1);
            x.lose(1);
            CHECKS.due("find(0, " + (length - 1) + ") from the others", x.find(0, length - 1), "0123456789abcdef".charAt(length - 1));
            CHECKS.due("find(0, " + length + ") from the others", x.find(0, length), -1);
        }
    }

    private static void findOfLengthsUpTo255() {
        CHECKS.sentence("Promise 4", "its length, 0 .. 255");
        for (int length : new int[] {15, 16, 17, 127, 128, 254, 255}) {
            ThreeFiles x = Checks.filled(1, 2);
            Checks.forge(x, 1, 0, 3, length ^ 1);
            CHECKS.due("the length", x.byteAt(1, 0, 3), length);
            CHECKS.due("find(0, 0) of length " + length, x.find(0, 0), 'a');
            CHECKS.due("find(0, 14) of length " + length, x.find(0, 14), 0);
            CHECKS.due("find(0, 15) of length " + length, x.find(0, 15), length > 15 ? 0 : -1);
            CHECKS.due("find(0, 16) of length " + length, x.find(0, 16), -1);
            CHECKS.due("find(0, 254) of length " + length, x.find(0, 254), -1);
        }
        ThreeFiles zero = Checks.filled(1, 2);
        Checks.forge(zero, 1, 0, 3, 1);
        CHECKS.due("find(0, 0) of length 0", zero.find(0, 0), -1);
    }

    private static void findOfARowWithoutBytes() {
        CHECKS.sentence("Promise 4", "not less than its length, of empty and dropped rows");
        ThreeFiles x = Checks.filled(2, 3);
        CHECKS.due("find(3, 0) of an empty row", x.find(3, 0), -1);
        x.drop(1);
        CHECKS.due("find(0, 0) of a dropped row", x.find(0, 0), -1);
        CHECKS.due("find(1, 0) beside a dropped row", x.find(1, 0), 'b');
        x.lose(0);
        CHECKS.due("find(3, 0) of an empty row, from the others", x.find(3, 0), -1);
        x.reopen();
        x.lose(1);
        CHECKS.due("find(0, 0) of a dropped row, from the others", x.find(0, 0), -1);
    }

    private static void rowsOfAYear() {
        CHECKS.sentence("Promise 5", "How many pieces of rows that have a year, 1 .. 100");
        ThreeFiles x = new ThreeFiles(4);
        CHECKS.due("rows(1) of none", x.rows(1), 0);
        int[] years = {1, 100, 1, 2, 99, 1, 100};
        for (int year : years) {
            Checks.add(x, year, "a");
        }
        CHECKS.due("rows(1)", x.rows(1), 3);
        CHECKS.due("rows(100)", x.rows(100), 2);
        CHECKS.due("rows(2)", x.rows(2), 1);
        CHECKS.due("rows(99)", x.rows(99), 1);
        CHECKS.due("rows(3)", x.rows(3), 0);
        x.drop(100);
        CHECKS.due("rows(100) behind drop", x.rows(100), 0);
        ThreeFiles forged = Checks.filled(1, 2);
        Checks.forge(forged, 1, 0, 3, 1);
        CHECKS.due("rows(1) of a row of length 0", forged.rows(1), 1);
        ThreeFiles full = new ThreeFiles(64);
        for (int row = 0; row < 128; row++) {
            Checks.add(full, 5, "r");
        }
        CHECKS.due("rows(5) of a full store", full.rows(5), 128);
    }

    private static void rowsThatCanBeReadNow() {
        CHECKS.sentence("Promise 5", "can be read now");
        for (int bits = 0; bits < 8; bits++) {
            ThreeFiles x = new ThreeFiles(2);
            for (int row = 0; row < 4; row++) {
                Checks.add(x, 7, "r");
            }
            Checks.spoilBits(x, bits, 0);
            int bad = Integer.bitCount(bits);
            int due = bad < 2 ? 4 : 2 + Integer.bitCount(~bits & 6);
            CHECKS.due("rows(7) with bits " + bits + " not good", x.rows(7), due);
        }
        ThreeFiles x = Checks.filled(2, 4);
        x.lose(1);
        CHECKS.due("rows(1) without file 1", x.rows(1), 2);
        CHECKS.due("rows(2) without file 1", x.rows(2), 2);
        x.lose(2);
        CHECKS.due("rows(1) without files 1 and 2", x.rows(1), 0);
        CHECKS.due("rows(2) without files 1 and 2", x.rows(2), 1);
        x.lose(0);
        CHECKS.due("rows(2) without all files", x.rows(2), 0);
    }

    private static void rowsCountPiecesOfRowsAlone() {
        CHECKS.sentence("Promise 5", "pieces of rows");
        ThreeFiles x = new ThreeFiles(3);
        for (int stripe = 0; stripe < 3; stripe++) {
            Checks.add(x, 4, "a");
            CHECKS.due("the sum piece has year 4 too", x.byteAt(stripe, stripe, 2), 4);
            CHECKS.due("rows(4)", x.rows(4), stripe + 1);
            Checks.add(x, 8, "b");
        }
        CHECKS.due("rows(12), the year of the sum pieces", x.rows(4 ^ 8), 0);
    }

    private static void rowsOfOtherYears() {
        CHECKS.sentence("Promise 5", "0 for other years");
        ThreeFiles x = Checks.filled(3, 5);
        x.drop(1);
        Checks.forge(x, 2, 0, 2, 2 ^ 101);
        CHECKS.due("a piece of year 101", x.byteAt(2, 0, 2), 101);
        CHECKS.due("a dropped piece", x.byteAt(1, 0, 2), 255);
        CHECKS.due("an empty piece", x.byteAt(1, 2, 2), 0);
        for (int year : Checks.NO_YEARS) {
            CHECKS.due("rows(" + year + ")", x.rows(year), 0);
        }
    }

    private static void badAtTellsTheFirst() {
        CHECKS.sentence("Promise 13", "1 and the number of the first stripe");
        ThreeFiles x = Checks.filled(4, 8);
        for (int stripe = 3; stripe >= 0; stripe--) {
            Checks.spoil(x, 0, stripe);
            Checks.spoil(x, 2, stripe);
            CHECKS.due("badAt() with stripe " + stripe + " the first", x.badAt(), stripe + 1);
        }
        ThreeFiles last = new ThreeFiles(64);
        for (int row = 0; row < 128; row++) {
            Checks.add(last, 1, "r");
        }
        Checks.spoil(last, 0, 63);
        CHECKS.due("badAt() with one bad in the last of 64", last.badAt(), 0);
        Checks.spoil(last, 1, 63);
        CHECKS.due("badAt() with two bad in the last of 64", last.badAt(), 64);
    }

    private static void badAtOfTwoOrMore() {
        CHECKS.sentence("Promise 13", "of which two pieces or more are not good");
        for (int bits = 0; bits < 8; bits++) {
            for (int stripe = 0; stripe < 3; stripe++) {
                ThreeFiles x = Checks.filled(3, 6);
                Checks.spoilBits(x, bits, stripe);
                CHECKS.due("badAt() with bits " + bits + " not good", x.badAt(), Integer.bitCount(bits) < 2 ? 0 : stripe + 1);
            }
        }
        ThreeFiles x = Checks.filled(4, 8);
        x.crash(0, 80);
        CHECKS.due("badAt() with one cut", x.badAt(), 0);
        x.crash(1, 90);
        CHECKS.due("badAt() with two cut", x.badAt(), 4);
        x.crash(1, 71);
        CHECKS.due("badAt() with one cut in stripe 2", x.badAt(), 4);
        x.crash(0, 71);
        CHECKS.due("badAt() with two cut in stripe 2", x.badAt(), 3);
        x.lose(0);
        CHECKS.due("badAt() with one lost", x.badAt(), 3);
        x.lose(1);
        CHECKS.due("badAt() with two lost", x.badAt(), 1);
    }

    private static void badAtWhenThereIsNone() {
        CHECKS.sentence("Promise 13", "0 when there is none");
        CHECKS.due("badAt() of a new store", new ThreeFiles(3).badAt(), 0);
        ThreeFiles x = Checks.filled(3, 6);
        CHECKS.due("badAt() of a good store", x.badAt(), 0);
        Checks.spoil(x, 0, 0);
        Checks.spoil(x, 1, 1);
        Checks.spoil(x, 2, 2);
        CHECKS.due("badAt() with one bad in each stripe", x.badAt(), 0);
        Checks.cutAllTo(x, 23);
        CHECKS.due("badAt() with 23 bytes in each file", x.badAt(), 0);
        Checks.cutAllTo(x, 0);
        CHECKS.due("badAt() of no bytes", x.badAt(), 0);
    }

    private static void byteAtOfAPiece() {
        CHECKS.sentence("Promise 14", "Byte i, 0 .. 23, of a piece, 0 .. 255");
        ThreeFiles x = new ThreeFiles(2);
        x.feed(255);
        x.feed(128);
        x.row(1);
        CHECKS.duePiece(x, 1, 0, 0, 0, 0, 1, 2, 255, 128, 0);
        CHECKS.dueSum(x, 1, 0);
        x.poke(1, 0, 255);
        x.poke(1, 4, 255);
        x.poke(1, 6, 200);
        CHECKS.duePiece(x, 1, 0, 0, 255, 0, 1, 2, 0, 128, 200);
        int last = x.byteAt(1, 0, 23);
        x.poke(1, 23, 129);
        CHECKS.due("byteAt(1, 0, 23)", x.byteAt(1, 0, 23), last ^ 129);
    }

    private static void byteAtOfNoSuchByteOfTheFile() {
        CHECKS.sentence("Promise 14", "0 when the file has no such byte");
        ThreeFiles x = Checks.filled(3, 1);
        for (int file = 0; file < 3; file++) {
            CHECKS.dueAll(x, file, 1, 0, 23, 0);
            CHECKS.due("byteAt(" + file + ", 2, 23), the last there may be", Checks.byteAt(x, file, 2, 23), 0);
        }
        for (int i = 0; i < 24; i++) {
            ThreeFiles cut = new ThreeFiles(1);
            Checks.add(cut, 1, "0123456789abcdef");
            int before = i == 0 ? 0 : cut.byteAt(1, 0, i - 1);
            cut.crash(1, i);
            CHECKS.dueAll(cut, 1, 0, i, 23, 0);
            if (i > 0) {
                CHECKS.due("byteAt(1, 0, " + (i - 1) + ") in front of the cut", cut.byteAt(1, 0, i - 1), before);
            }
        }
        ThreeFiles lost = Checks.filled(2, 4);
        lost.lose(2);
        CHECKS.dueAll(lost, 2, 0, 0, 23, 0);
        CHECKS.dueAll(lost, 2, 1, 0, 23, 0);
    }

    private static void byteAtOfNoSuchFile() {
        CHECKS.sentence("Promise 14", "ArrayIndexOutOfBounds: there is no such file");
        ThreeFiles x = Checks.filled(3, 6);
        for (int file : Checks.NO_FILES) {
            dueThrow(x, file, 0, 0);
            dueThrow(x, file, 2, 23);
        }
    }

    private static void byteAtOfNoSuchPiece() {
        CHECKS.sentence("Promise 14", "the piece is not one that files may have");
        for (int pieces : new int[] {1, 2, 63, 64}) {
            ThreeFiles x = Checks.filled(pieces, 1);
            CHECKS.due("byteAt(0, " + (pieces - 1) + ", 23)", Checks.byteAt(x, 0, pieces - 1, 23), pieces == 1 ? Checks.sum(x, 0, 0) >>> 24 : 0);
            for (int piece : new int[] {pieces, pieces + 1, 65, -1, Checks.MAX, Checks.MIN, 1 << 29, 178956971}) {
                dueThrow(x, 0, piece, 0);
            }
        }
        for (int asked : new int[] {0, -1, 65, Checks.MAX}) {
            dueThrow(new ThreeFiles(asked), 0, 1, 0);
        }
    }

    private static void byteAtOfNoSuchByte() {
        CHECKS.sentence("Promise 14", "or i is not such");
        ThreeFiles x = Checks.filled(3, 6);
        for (int i : new int[] {-1, 24, 25, 47, 48, -24, Checks.MAX, Checks.MIN}) {
            dueThrow(x, 0, 0, i);
            dueThrow(x, 2, 1, i);
        }
    }

    private static void dueThrow(ThreeFiles x, int file, int piece, int i) {
        String call = "byteAt(" + file + ", " + piece + ", " + i + ")";
        boolean thrown = false;
        try {
            x.byteAt(file, piece, i);
        } catch (ArrayIndexOutOfBoundsException e) {
            thrown = true;
            // The machine's own exception would come from a line without a throw statement and
            // tell an index; the program's is a written text.
            CHECKS.due(call + " is thrown by byteAt itself",
                    e.getStackTrace()[0].getMethodName().equals("byteAt")
                            && !String.valueOf(e.getMessage()).startsWith("Index "), true);
        }
        CHECKS.due(call + " throws", thrown, true);
    }

    private static void oddOfAStripe() {
        CHECKS.sentence("Promise 16", "Which file has the sum piece of a stripe");
        ThreeFiles x = new ThreeFiles(64);
        for (int row = 0; row < 128; row++) {
            Checks.add(x, 1, "r");
        }
        for (int stripe = 0; stripe < 64; stripe++) {
            CHECKS.due("odd(" + stripe + ")", x.odd(stripe), stripe % 3);
        }
        x.lose(1);
        CHECKS.due("odd(1) with its sum piece lost", x.odd(1), 1);
    }

    private static void oddOfNoSuchStripe() {
        CHECKS.sentence("Promise 16", "NONE when there is none such");
        CHECKS.due("odd(0) of a new store", new ThreeFiles(5).odd(0), -1);
        ThreeFiles x = Checks.filled(5, 5);
        CHECKS.due("odd(2), the last", x.odd(2), 2);
        for (int stripe : new int[] {3, 4, 5, 64, -1, -3, Checks.MAX, Checks.MIN}) {
            CHECKS.due("odd(" + stripe + ")", x.odd(stripe), -1);
        }
        x.lose(0);
        x.crash(1, 71);
        CHECKS.due("odd(2) while one file has it whole", x.odd(2), 2);
        x.crash(2, 71);
        CHECKS.due("odd(2) while no file has it whole", x.odd(2), -1);
        CHECKS.due("odd(1)", x.odd(1), 1);
    }

    private static void sizeOfAFile() {
        CHECKS.sentence("Promise 17", "How many bytes a file has");
        ThreeFiles x = Checks.filled(64, 3);
        for (int file = 0; file < 3; file++) {
            CHECKS.due("size(" + file + ")", x.size(file), 48);
        }
        x.crash(1, 47);
        x.lose(2);
        CHECKS.due("size(0)", x.size(0), 48);
        CHECKS.due("size(1) behind crash", x.size(1), 47);
        CHECKS.due("size(2) behind lose", x.size(2), 0);
        x.crash(1, 0);
        CHECKS.due("size(1) behind a crash to 0", x.size(1), 0);
        CHECKS.due("size(1) of a new store", new ThreeFiles(64).size(1), 0);
    }

    private static void sizeOfNoSuchFile() {
        CHECKS.sentence("Promise 17", "NONE when there is none such");
        ThreeFiles x = Checks.filled(2, 3);
        for (int file : Checks.NO_FILES) {
            CHECKS.due("size(" + file + ")", x.size(file), -1);
            CHECKS.due("size(" + file + ") of a new store", new ThreeFiles(2).size(file), -1);
        }
    }
}
