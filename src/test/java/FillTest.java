/** Promises 1 to 3: a new object, feed, row. */
public final class FillTest {
    private static final Checks CHECKS = new Checks("FillTest");
    private static final String SIXTEEN = "0123456789abcdef";

    public static void main(String[] args) {
        upToSoManyPieces();
        ofAnotherNumberOne();
        noRows();
        openAtFirst();
        feedTakesBytes();
        feedRefusesWhatIsNoByte();
        feedRefusesA17th();
        feedWhileClosed();
        rowOfOneByteAtLeast();
        rowOfAYear();
        noneAreFedThen();
        secondRowOfTheLastStripe();
        secondRowOnlyIfAllAreGood();
        secondRowOnlyIfThatOneIsEmpty();
        secondRowOfTheLastStripeAlone();
        firstRowOfANewStripe();
        rowAnswersItsNumber();
        rowWhileClosed();
        rowWithNothingFed();
        rowOfNoYear();
        rowWithoutRoom();
        rowWithoutRoomThoughOneIsEmpty();
        CHECKS.end();
    }

    private static void upToSoManyPieces() {
        CHECKS.sentence("Promise 1", "Up to so many pieces in each file, 1 .. 64");
        for (int pieces : new int[] {1, 2, 3, 63, 64}) {
            duePieces(pieces, pieces);
        }
    }

    private static void ofAnotherNumberOne() {
        CHECKS.sentence("Promise 1", "(of another number 1)");
        for (int pieces : new int[] {0, -1, -64, 65, 66, 128, 256 + 2, Checks.MAX, Checks.MIN}) {
            duePieces(pieces, 1);
        }
    }

    private static void duePieces(int asked, int due) {
        String name = " of ThreeFiles(" + asked + ")";
        ThreeFiles x = new ThreeFiles(asked);
        for (int row = 0; row < 2 * due; row++) {
            CHECKS.due("row " + row + name, Checks.add(x, 1, "r"), row);
        }
        CHECKS.due("a row too many" + name, Checks.add(x, 1, "r"), -1);
        for (int file = 0; file < 3; file++) {
            CHECKS.due("size(" + file + ") of a full one" + name, x.size(file), 24 * due);
            CHECKS.due("byteAt of the last piece" + name, Checks.byteAt(x, file, due - 1, 0), due - 1);
            CHECKS.due("byteAt of a piece too many" + name, Checks.byteAt(x, file, due, 0), Checks.THROWN);
        }
    }

    private static void noRows() {
        CHECKS.sentence("Promise 1", "No rows");
        ThreeFiles x = new ThreeFiles(4);
        for (int year = 0; year <= 101; year++) {
            CHECKS.due("rows(" + year + ")", x.rows(year), 0);
        }
        for (int file = 0; file < 3; file++) {
            CHECKS.due("size(" + file + ")", x.size(file), 0);
            CHECKS.due("same(" + file + ")", x.same(file), true);
            CHECKS.due("byteAt(" + file + ", 3, 23)", Checks.byteAt(x, file, 3, 23), 0);
        }
        CHECKS.due("odd(0)", x.odd(0), -1);
        CHECKS.due("find(0, 0)", x.find(0, 0), -1);
        CHECKS.due("find(1, 0)", x.find(1, 0), -1);
        CHECKS.due("badAt()", x.badAt(), 0);
        CHECKS.due("mended()", x.mended(), 0);
        CHECKS.due("drop(1)", x.drop(1), false);
        CHECKS.due("row(1), for none are fed", x.row(1), -1);
        CHECKS.due("reopen()", x.reopen(), 0);
    }

    private static void openAtFirst() {
        CHECKS.sentence("Promise 1", "open");
        for (int pieces : new int[] {1, 64, 0, 65}) {
            ThreeFiles x = new ThreeFiles(pieces);
            CHECKS.due("row(1) of ThreeFiles(" + pieces + ")", Checks.add(x, 1, "a"), 0);
            CHECKS.due("drop(1) of ThreeFiles(" + pieces + ")", x.drop(1), true);
        }
    }

    private static void feedTakesBytes() {
        CHECKS.sentence("Promise 2", "One more byte, 0 .. 255, of the row to come. Answers true");
        for (int first = 0; first < 256; first += 16) {
            ThreeFiles x = new ThreeFiles(1);
            for (int b = first; b < first + 16; b++) {
                CHECKS.due("feed(" + b + ")", x.feed(b), true);
            }
            x.row(1);
            for (int i = 0; i < 16; i++) {
                CHECKS.due("find(0, " + i + ")", x.find(0, i), first + i);
            }
        }
    }

    private static void feedRefusesWhatIsNoByte() {
        CHECKS.sentence("Promise 2", "false when it is not such");
        ThreeFiles x = new ThreeFiles(1);
        for (int b : new int[] {-1, 256, -128, -256, 256 + 65, Checks.MAX, Checks.MIN}) {
            CHECKS.due("feed(" + b + ")", x.feed(b), false);
        }
        CHECKS.due("row(1), for none are fed", x.row(1), -1);
        x.feed(65);
        x.feed(-1);
        x.feed(256);
        x.row(1);
        CHECKS.duePiece(x, 1, 0, 3, 1, 65, 0);
    }

    private static void feedRefusesA17th() {
        CHECKS.sentence("Promise 2", "or there are 16");
        ThreeFiles x = new ThreeFiles(2);
        for (int round = 0; round < 3; round++) {
            for (int k = 0; k < 16; k++) {
                CHECKS.due("feed " + (k + 1), x.feed(k + round), true);
            }
            CHECKS.due("feed 17", x.feed(99), false);
            CHECKS.due("row(0)", x.row(0), -1);
            CHECKS.due("feed 17 behind a refused row", x.feed(99), false);
            CHECKS.due("row(1)", x.row(1), round);
            CHECKS.due("find of the first", x.find(round, 0), round);
            CHECKS.due("find of the 16th", x.find(round, 15), 15 + round);
        }
    }

    private static void feedWhileClosed() {
        CHECKS.sentence("Promise 2", "Answers true (no word of a closed store)");
        ThreeFiles x = Checks.filled(1, 1);
        x.lose(0);
        CHECKS.due("feed(9) while closed", x.feed(9), true);
        x.reopen();
        CHECKS.due("row(1) of what was fed while closed", x.row(1), 1);
        CHECKS.due("find(1, 0)", x.find(1, 0), 9);
        CHECKS.due("find(1, 1)", x.find(1, 1), -1);
    }

    private static void rowOfOneByteAtLeast() {
        CHECKS.sentence("Promise 3", "The bytes fed, 1 at least, become a row");
        for (int length = 1; length <= 16; length++) {
            ThreeFiles x = new ThreeFiles(1);
            CHECKS.due("row(1) of " + length, Checks.add(x, 1, SIXTEEN.substring(0, length)), 0);
            CHECKS.due("its length", x.byteAt(1, 0, 3), length);
            CHECKS.due("its last byte", x.find(0, length - 1), SIXTEEN.charAt(length - 1));
            CHECKS.due("none behind it", x.find(0, length), -1);
        }
        ThreeFiles zero = new ThreeFiles(1);
        zero.feed(0);
        CHECKS.due("row(1) of one 0", zero.row(1), 0);
        CHECKS.due("find(0, 0)", zero.find(0, 0), 0);
    }

    private static void rowOfAYear() {
        CHECKS.sentence("Promise 3", "of a year 1 .. 100");
        ThreeFiles x = new ThreeFiles(64);
        for (int year = 1; year <= 100; year++) {
            CHECKS.due("row(" + year + ")", Checks.add(x, year, "y"), year - 1);
            CHECKS.due("rows(" + year + ")", x.rows(year), 1);
        }
    }

    private static void noneAreFedThen() {
        CHECKS.sentence("Promise 3", "none are fed then");
        ThreeFiles x = new ThreeFiles(2);
        Checks.add(x, 1, SIXTEEN);
        CHECKS.due("row(1) behind a first row", x.row(1), -1);
        Checks.add(x, 1, "z");
        CHECKS.due("row(1) behind a second row", x.row(1), -1);
        CHECKS.due("its length", x.byteAt(2, 0, 3), 1);
        CHECKS.due("its byte", x.find(1, 0), 'z');
        CHECKS.due("size(0)", x.size(0), 24);
    }

    private static void secondRowOfTheLastStripe() {
        CHECKS.sentence("Promise 3", "It is the second row of the last stripe, if all pieces of that are good, and that one is empty");
        ThreeFiles x = new ThreeFiles(4);
        for (int stripe = 0; stripe < 4; stripe++) {
            Checks.add(x, 3, "long text, first");
            CHECKS.due("the second row", Checks.add(x, 5, "x"), 2 * stripe + 1);
            for (int file = 0; file < 3; file++) {
                CHECKS.due("size(" + file + ")", x.size(file), 24 * stripe + 24);
                CHECKS.dueSum(x, file, stripe);
            }
            CHECKS.duePiece(x, (stripe + 1) % 3, stripe, 0, stripe, 0, 3, 16, 'l', 'o', 'n');
            CHECKS.duePiece(x, (stripe + 2) % 3, stripe, 0, stripe, 0, 5, 1, 'x', 0, 0);
            CHECKS.duePiece(x, stripe % 3, stripe, 0, stripe, 0, 3 ^ 5, 16 ^ 1, 'l' ^ 'x', 'o', 'n');
        }
    }

    private static void secondRowOnlyIfAllAreGood() {
        CHECKS.sentence("Promise 3", "if all pieces of that are good");
        for (int bits : new int[] {3, 5, 6, 7}) {
            ThreeFiles x = Checks.filled(2, 1);
            Checks.spoilBits(x, bits, 0);
            x.reopen();
            CHECKS.due("row(1) behind a stripe with bits " + bits + " not good", Checks.add(x, 1, "n"), 2);
            CHECKS.due("find(2, 0)", x.find(2, 0), 'n');
            CHECKS.due("badAt()", x.badAt(), 1);
        }
        for (int bad : new int[] {0, 2}) {
            ThreeFiles x = Checks.openWithOneBad(2, bad, false);
            CHECKS.due("badAt() with one bad", x.badAt(), 0);
            CHECKS.due("mended() with one bad", x.mended(), 0);
            CHECKS.due("row(1) behind a stripe with file " + bad + " not good", Checks.add(x, 1, "n"), 2);
            CHECKS.due("find(1, 0)", x.find(1, 0), -1);
        }
    }

    private static void secondRowOnlyIfThatOneIsEmpty() {
        CHECKS.sentence("Promise 3", "and that one is empty");
        ThreeFiles taken = Checks.filled(2, 2);
        CHECKS.due("row(1) behind two rows", Checks.add(taken, 1, "n"), 2);
        ThreeFiles dropped = Checks.filled(2, 2);
        dropped.drop(2);
        CHECKS.due("row(1) behind a dropped row", Checks.add(dropped, 1, "n"), 2);
        ThreeFiles first = Checks.filled(2, 1);
        first.drop(1);
        CHECKS.due("row(1) behind a dropped first row", Checks.add(first, 1, "n"), 1);
        CHECKS.duePiece(first, 0, 0, 2, 255 ^ 1, 1, 'n');
        CHECKS.dueSum(first, 0, 0);
        ThreeFiles emptyFirst = Checks.filled(2, 2);
        Checks.forge(emptyFirst, 1, 0, 2, 1);
        emptyFirst.reopen();
        CHECKS.due("row(1) with the first row empty and not the second", Checks.add(emptyFirst, 1, "n"), 2);
    }

    private static void secondRowOfTheLastStripeAlone() {
        CHECKS.sentence("Promise 3", "of the last stripe");
        ThreeFiles x = Checks.filled(3, 1);
        Checks.spoilBits(x, 3, 0);
        x.reopen();
        Checks.add(x, 1, "n");
        Checks.spoilBits(x, 3, 0);
        x.reopen();
        CHECKS.due("badAt(), all is good again", x.badAt(), 0);
        CHECKS.due("row(1) with rows 1 and 3 empty", Checks.add(x, 1, "o"), 3);
        CHECKS.due("row(1) with row 1 empty", Checks.add(x, 1, "p"), 4);
        CHECKS.due("find(1, 0)", x.find(1, 0), -1);
    }

    private static void firstRowOfANewStripe() {
        CHECKS.sentence("Promise 3", "else the first of a new stripe, of which three pieces are written behind all files: its row, an empty piece, and their sum piece");
        ThreeFiles x = new ThreeFiles(4);
        for (int stripe = 0; stripe < 4; stripe++) {
            CHECKS.due("the first row", Checks.add(x, 3, "one"), 2 * stripe);
            for (int file = 0; file < 3; file++) {
                CHECKS.due("size(" + file + ")", x.size(file), 24 * stripe + 24);
                CHECKS.dueSum(x, file, stripe);
            }
            CHECKS.duePiece(x, (stripe + 1) % 3, stripe, 0, stripe, 0, 3, 3, 'o', 'n', 'e', 0);
            CHECKS.duePiece(x, (stripe + 2) % 3, stripe, 0, stripe, 0, 0, 0, 0, 0, 0, 0);
            CHECKS.duePiece(x, stripe % 3, stripe, 0, stripe, 0, 3, 3, 'o', 'n', 'e', 0);
            Checks.add(x, 3, "two");
        }
        CHECKS.due("mended() counts no writes", x.mended(), 0);
    }

    private static void rowAnswersItsNumber() {
        CHECKS.sentence("Promise 3", "Answers its number");
        ThreeFiles x = new ThreeFiles(64);
        for (int row = 0; row < 128; row++) {
            x.feed(row);
            CHECKS.due("row(1)", x.row(1), row);
        }
        for (int row = 0; row < 128; row++) {
            CHECKS.due("find(" + row + ", 0)", x.find(row, 0), row);
        }
    }

    private static void rowWhileClosed() {
        CHECKS.sentence("Promise 3", "NONE when it is closed");
        ThreeFiles x = Checks.filled(2, 1);
        x.feed(66);
        x.poke(0, 0, 1);
        CHECKS.due("row(1) while closed", x.row(1), -1);
        x.scrub(3);
        CHECKS.due("row(1) while closed, all good", x.row(1), -1);
        x.reopen();
        CHECKS.due("row(100) of what was kept", x.row(100), 1);
        CHECKS.due("find(1, 0)", x.find(1, 0), 66);
    }

    private static void rowWithNothingFed() {
        CHECKS.sentence("Promise 3", "no bytes were fed");
        ThreeFiles x = new ThreeFiles(2);
        CHECKS.due("row(1) of a new store", x.row(1), -1);
        CHECKS.due("size(0)", x.size(0), 0);
        Checks.add(x, 1, "a");
        CHECKS.due("row(1) with an empty second row", x.row(1), -1);
        x.feed(300);
        CHECKS.due("row(1) behind a refused feed", x.row(1), -1);
        CHECKS.due("rows(1)", x.rows(1), 1);
    }

    private static void rowOfNoYear() {
        CHECKS.sentence("Promise 3", "the year is not such");
        ThreeFiles x = new ThreeFiles(1);
        x.feed(65);
        for (int year : Checks.NO_YEARS) {
            CHECKS.due("row(" + year + ")", x.row(year), -1);
        }
        CHECKS.due("size(0)", x.size(0), 0);
        CHECKS.due("row(1) of what was kept", x.row(1), 0);
        CHECKS.due("find(0, 0)", x.find(0, 0), 65);
    }

    private static void rowWithoutRoom() {
        CHECKS.sentence("Promise 3", "or the files have no room");
        for (int pieces : new int[] {1, 2, 64}) {
            ThreeFiles x = new ThreeFiles(pieces);
            for (int row = 0; row < 2 * pieces; row++) {
                Checks.add(x, 1, "r");
            }
            x.feed(67);
            CHECKS.due("row(1) without room", x.row(1), -1);
            CHECKS.due("size(0)", x.size(0), 24 * pieces);
            x.drop(1);
            CHECKS.due("row(1) with all rows dropped", x.row(1), -1);
            Checks.cutAllTo(x, 0);
            x.reopen();
            CHECKS.due("row(1) with room again", x.row(1), 0);
            CHECKS.due("find(0, 0) of what stayed fed", x.find(0, 0), 67);
        }
    }

    private static void rowWithoutRoomThoughOneIsEmpty() {
        CHECKS.sentence("Promise 3", "the files have no room, with an empty row in a stripe that is not all good");
        ThreeFiles two = Checks.filled(1, 1);
        Checks.spoilBits(two, 3, 0);
        two.reopen();
        CHECKS.due("row(1) behind two bad", Checks.add(two, 1, "n"), -1);
        ThreeFiles one = Checks.openWithOneBad(1, 0, false);
        CHECKS.due("row(1) behind one bad", Checks.add(one, 1, "n"), -1);
        one.reopen();
        CHECKS.due("mended()", one.mended(), 1);
        CHECKS.due("row(1) of what stayed fed, with none bad", one.row(1), 1);
        CHECKS.due("find(1, 0)", one.find(1, 0), 'n');
    }
}
