/** The terms of the document, one test for each sentence that names a boundary case. */
public final class TermsTest {
    private static final Checks CHECKS = new Checks("TermsTest");

    public static void main(String[] args) {
        the512thCall();
        onePieceIsMadeAgain();
        twoAreTold();
        files();
        pieceHas24Bytes();
        numberOfTheStripe();
        yearAndLength();
        contents();
        sum();
        placeOfAPiece();
        sumPiece();
        rowsOfAStripe();
        emptyPiece();
        emptyPieceIsWritten();
        droppedPieceIsWritten();
        goodHasAllItsBytes();
        goodHasItsNumber();
        goodHasARightSum();
        readable();
        readableAsTheOthersMakeIt();
        stripes();
        openAtFirst();
        openBehindReopen();
        closedByHarm();
        notClosedByRefusedHarm();
        bytesFed();
        madeFromADroppedOne();
        madeFromAnAlteredOne();
        CHECKS.end();
    }

    private static void the512thCall() {
        CHECKS.sentence("What it is", "An object is used for at most 512 calls");
        ThreeFiles x = new ThreeFiles(64);
        for (int row = 0; row < 128; row++) {
            x.feed(row);
            CHECKS.due("row(1)", x.row(1), row);
        }
        for (int call = 257; call < 512; call++) {
            CHECKS.due("call " + call + ", find(" + (call - 257) / 2 + ", 0)", x.find((call - 257) / 2, 0),
                    (call - 257) / 2);
        }
        CHECKS.due("call 512, find(127, 0)", x.find(127, 0), 127);
    }

    private static void onePieceIsMadeAgain() {
        CHECKS.sentence("Terms", "One piece of a stripe that is lost, cut, or found altered is made again");
        for (int file = 0; file < 3; file++) {
            for (int i = 0; i < 24; i++) {
                ThreeFiles cut = twoLongRows();
                cut.crash(file, i);
                dueMadeAgain("cut to " + i, cut, file);
                ThreeFiles altered = twoLongRows();
                altered.poke(file, i, 1 << i % 8);
                dueMadeAgain("altered at " + i, altered, file);
            }
            ThreeFiles lost = twoLongRows();
            lost.lose(file);
            dueMadeAgain("lost", lost, file);
        }
    }

    private static void dueMadeAgain(String how, ThreeFiles x, int file) {
        CHECKS.due("same(" + file + ") of one " + how, x.same(file), false);
        CHECKS.due("reopen() of one " + how, x.reopen(), 2);
        CHECKS.due("mended() of one " + how, x.mended(), 1);
        CHECKS.due("same(" + file + ") behind reopen of one " + how, x.same(file), true);
    }

    private static ThreeFiles twoLongRows() {
        ThreeFiles x = new ThreeFiles(1);
        Checks.add(x, 77, "0123456789abcdef");
        Checks.add(x, 100, "quite other text");
        return x;
    }

    private static void twoAreTold() {
        CHECKS.sentence("Terms", "two are told");
        for (int good = 0; good < 3; good++) {
            ThreeFiles x = Checks.filled(2, 4);
            x.poke((good + 1) % 3, 24, 1);
            x.crash((good + 2) % 3, 47);
            CHECKS.due("badAt() with file " + good + " good", x.badAt(), 2);
            x.reopen();
            CHECKS.due("mended()", x.mended(), 0);
            CHECKS.due("badAt() behind reopen", x.badAt(), 2);
        }
    }

    private static void files() {
        CHECKS.sentence("Terms", "FILES are 0 .. 2");
        for (int file = 0; file < 3; file++) {
            ThreeFiles x = Checks.filled(1, 2);
            CHECKS.due("size(" + file + ")", x.size(file), 24);
            CHECKS.due("same(" + file + ")", x.same(file), true);
            CHECKS.due("byteAt(" + file + ", 0, 0)", Checks.byteAt(x, file, 0, 0), 0);
            CHECKS.due("poke(" + file + ", 0, 1)", x.poke(file, 0, 1), true);
            CHECKS.due("crash(" + file + ", 1)", x.crash(file, 1), true);
            CHECKS.due("lose(" + file + ")", x.lose(file), true);
        }
        ThreeFiles x = Checks.filled(1, 2);
        for (int file : Checks.NO_FILES) {
            CHECKS.due("size(" + file + ")", x.size(file), -1);
            CHECKS.due("same(" + file + ")", x.same(file), false);
            CHECKS.due("byteAt(" + file + ", 0, 0)", Checks.byteAt(x, file, 0, 0), Checks.THROWN);
            CHECKS.due("poke(" + file + ", 0, 1)", x.poke(file, 0, 1), false);
            CHECKS.due("crash(" + file + ", 1)", x.crash(file, 1), false);
            CHECKS.due("lose(" + file + ")", x.lose(file), false);
        }
    }

    private static void pieceHas24Bytes() {
        CHECKS.sentence("Terms", "A PIECE has 24 bytes");
        ThreeFiles x = new ThreeFiles(64);
        for (int row = 0; row < 128; row++) {
            Checks.add(x, 1, "r");
            CHECKS.due("size(" + row % 3 + ") behind row " + row, x.size(row % 3), 24 * (row / 2 + 1));
        }
    }

    private static void numberOfTheStripe() {
        CHECKS.sentence("Terms", "0 and 1 the number of its stripe (the low byte first)");
        for (int file = 0; file < 3; file++) {
            ThreeFiles x = new ThreeFiles(64);
            for (int row = 0; row < 128; row++) {
                Checks.add(x, 1, "r");
                if (row % 2 == 0) {
                    CHECKS.duePiece(x, file, row / 2, 0, row / 2, 0);
                }
            }
        }
    }

    private static void yearAndLength() {
        CHECKS.sentence("Terms", "2 its YEAR, 3 its LENGTH");
        ThreeFiles x = new ThreeFiles(2);
        Checks.add(x, 1, "0123456789abcdef");
        Checks.add(x, 100, "x");
        CHECKS.duePiece(x, 1, 0, 2, 1, 16);
        CHECKS.duePiece(x, 2, 0, 2, 100, 1);
        CHECKS.duePiece(x, 0, 0, 2, 1 ^ 100, 16 ^ 1);
    }

    private static void contents() {
        CHECKS.sentence("Terms", "4 .. 19 its CONTENTS (0s behind its length)");
        ThreeFiles x = new ThreeFiles(2);
        String text = "0123456789abcdef";
        Checks.add(x, 1, text);
        for (int i = 0; i < 16; i++) {
            CHECKS.due("byteAt(1, 0, " + (4 + i) + ")", x.byteAt(1, 0, 4 + i), text.charAt(i));
        }
        Checks.add(x, 1, "0");
        CHECKS.due("byteAt(2, 0, 4) of a row of 1 byte behind one of 16", x.byteAt(2, 0, 4), '0');
        CHECKS.dueAll(x, 2, 0, 5, 19, 0);
        ThreeFiles again = new ThreeFiles(1);
        Checks.add(again, 1, "a");
        Checks.add(again, 2, text);
        Checks.forge(again, 2, 0, 2, 2);
        again.reopen();
        CHECKS.due("row(3) where 16 bytes stood", Checks.add(again, 3, "zy"), 1);
        CHECKS.duePiece(again, 2, 0, 2, 3, 2, 'z', 'y');
        CHECKS.dueAll(again, 2, 0, 6, 19, 0);
    }

    /** The first bytes are those that the test under ../shared/tests tells for the same row. */
    private static void sum() {
        CHECKS.sentence("Terms", "20 .. 23 its SUM, the lowest byte first");
        ThreeFiles x = new ThreeFiles(3);
        Checks.add(x, 100, "abc");
        CHECKS.duePiece(x, 0, 0, 0, 0, 0, 100, 3, 97, 98, 99, 0, 0, 0, 0, 0, 0, 0, 0, 0, 0, 0, 0, 0, 9, 205, 22, 59);
        CHECKS.duePiece(x, 1, 0, 0, 0, 0, 100, 3, 97, 98, 99, 0, 0, 0, 0, 0, 0, 0, 0, 0, 0, 0, 0, 0, 92, 184, 46, 127);
        CHECKS.duePiece(x, 2, 0, 0, 0, 0, 0, 0, 0, 0, 0, 0, 0, 0, 0, 0, 0, 0, 0, 0, 0, 0, 0, 0, 200, 1, 69, 35);
        ThreeFiles full = new ThreeFiles(2);
        for (int row = 0; row < 4; row++) {
            for (int k = 0; k < 16; k++) {
                full.feed(255 - 16 * row - k);
            }
            full.row(97 + row);
        }
        for (int file = 0; file < 3; file++) {
            CHECKS.dueSum(full, file, 0);
            CHECKS.dueSum(full, file, 1);
        }
    }

    private static void placeOfAPiece() {
        CHECKS.sentence("Terms", "Piece p of a file is its bytes 24 p .. 24 p + 23, of stripe p");
        ThreeFiles x = Checks.filled(3, 6);
        for (int place = 23; place <= 48; place++) {
            int before = x.byteAt(2, place / 24, place % 24);
            CHECKS.due("poke(2, " + place + ", 85)", x.poke(2, place, 85), true);
            CHECKS.due("byteAt behind it", x.byteAt(2, place / 24, place % 24), before ^ 85);
        }
        ThreeFiles cut = Checks.filled(3, 6);
        cut.crash(0, 48);
        cut.poke(2, 71, 1);
        CHECKS.due("find(4, 0) of stripe 2, cut off in file 0", cut.find(4, 0), -1);
        CHECKS.due("find(2, 0) of stripe 1", cut.find(2, 0), 'c');
        cut.poke(1, 24, 1);
        CHECKS.due("find(3, 0) of stripe 1, whole in file 0", cut.find(3, 0), 'd');
        cut.poke(2, 47, 1);
        CHECKS.due("find(2, 0) with the last byte of piece 1 altered", cut.find(2, 0), -1);
    }

    private static void sumPiece() {
        CHECKS.sentence("Terms", "OF A STRIPE t the SUM PIECE is in file t % 3; its bytes 2 .. 19 are those of both others, xor");
        ThreeFiles x = new ThreeFiles(4);
        for (int stripe = 0; stripe < 4; stripe++) {
            Checks.add(x, 3 + stripe, "0123456789abcdef");
            dueXor(x, stripe, 2, 3, 19);
            Checks.add(x, 90 + stripe, "ABCDEFGHIJKLMNO");
            dueXor(x, stripe, 2, 3, 18, 19);
            CHECKS.dueSum(x, stripe % 3, stripe);
        }
    }

    private static void dueXor(ThreeFiles x, int stripe, int... places) {
        for (int i : places) {
            CHECKS.due("byteAt(" + stripe % 3 + ", " + stripe + ", " + i + ")", x.byteAt(stripe % 3, stripe, i),
                    x.byteAt((stripe + 1) % 3, stripe, i) ^ x.byteAt((stripe + 2) % 3, stripe, i));
        }
    }

    private static void rowsOfAStripe() {
        CHECKS.sentence("Terms", "the rows 2 t and 2 t + 1 are in files (t + 1) % 3 and (t + 2) % 3");
        ThreeFiles x = Checks.filled(4, 8);
        for (int stripe = 0; stripe < 4; stripe++) {
            CHECKS.duePiece(x, (stripe + 1) % 3, stripe, 2, 1, 1, 'a' + 2 * stripe);
            CHECKS.duePiece(x, (stripe + 2) % 3, stripe, 2, 2, 1, 'b' + 2 * stripe);
            CHECKS.due("find of row 2 t", x.find(2 * stripe, 0), 'a' + 2 * stripe);
            CHECKS.due("find of row 2 t + 1", x.find(2 * stripe + 1, 0), 'b' + 2 * stripe);
        }
    }

    private static void emptyPiece() {
        CHECKS.sentence("Terms", "A piece of a row is EMPTY when its year is 0");
        ThreeFiles x = Checks.filled(2, 2);
        Checks.forge(x, 2, 0, 2, 2);
        x.reopen();
        CHECKS.due("find(1, 0) of a row of year 0 with a length", x.find(1, 0), 'b');
        CHECKS.due("row(9) in its place", Checks.add(x, 9, "n"), 1);
        CHECKS.due("find(1, 0)", x.find(1, 0), 'n');
        ThreeFiles year = Checks.filled(2, 1);
        Checks.forge(year, 2, 0, 2, 200);
        year.reopen();
        CHECKS.due("row(9) behind a piece of length 0 with a year", Checks.add(year, 9, "n"), 2);
    }

    private static void emptyPieceIsWritten() {
        CHECKS.sentence("Terms", "(it is written with length and contents 0)");
        ThreeFiles x = new ThreeFiles(2);
        Checks.add(x, 50, "0123456789abcdef");
        CHECKS.duePiece(x, 2, 0, 0, 0, 0, 0, 0);
        CHECKS.dueAll(x, 2, 0, 4, 19, 0);
        CHECKS.dueSum(x, 2, 0);
        Checks.add(x, 50, "0123456789abcdef");
        Checks.add(x, 50, "0123456789abcdef");
        CHECKS.duePiece(x, 0, 1, 0, 1, 0, 0, 0);
        CHECKS.dueAll(x, 0, 1, 4, 19, 0);
        CHECKS.dueSum(x, 0, 1);
    }

    private static void droppedPieceIsWritten() {
        CHECKS.sentence("Terms", "one of a row that is DROPPED is written with year 255, length and contents 0");
        ThreeFiles x = new ThreeFiles(2);
        Checks.add(x, 50, "0123456789abcdef");
        Checks.add(x, 51, "0123456789abcdef");
        x.feed(99);
        x.drop(50);
        CHECKS.duePiece(x, 1, 0, 0, 0, 0, 255, 0);
        CHECKS.dueAll(x, 1, 0, 4, 19, 0);
        CHECKS.dueSum(x, 1, 0);
        x.drop(51);
        CHECKS.duePiece(x, 2, 0, 0, 0, 0, 255, 0);
        CHECKS.dueAll(x, 2, 0, 4, 19, 0);
        CHECKS.dueSum(x, 2, 0);
        CHECKS.due("row(1) of what was fed before", x.row(1), 2);
        CHECKS.due("find(2, 0)", x.find(2, 0), 99);
    }

    /** A byte that is cut off reads 0, but a piece without it is not good, even if it was 0. */
    private static void goodHasAllItsBytes() {
        CHECKS.sentence("Terms", "A piece is GOOD when its file has all its bytes");
        ThreeFiles x = new ThreeFiles(1);
        Checks.add(x, 1, Checks.zeroEnded());
        CHECKS.due("a piece whose last byte is 0", x.byteAt(1, 0, 23), 0);
        Checks.spoil(x, 0, 0);
        CHECKS.due("find(0, 0) of the whole piece", x.find(0, 0), 'a');
        CHECKS.due("badAt() with the whole piece", x.badAt(), 0);
        x.crash(1, 23);
        CHECKS.due("find(0, 0) of the cut piece", x.find(0, 0), -1);
        CHECKS.due("badAt() with the cut piece", x.badAt(), 1);
    }

    private static void goodHasItsNumber() {
        CHECKS.sentence("Terms", "its number is that of its stripe");
        for (int i = 0; i < 2; i++) {
            for (int mask = 1; mask < 256; mask *= 2) {
                ThreeFiles x = Checks.filled(2, 4);
                Checks.forge(x, 2, 1, i, mask);
                CHECKS.due("find(2, 0) with a wrong number, from the others", x.find(2, 0), 'c');
                Checks.spoil(x, 1, 1);
                CHECKS.due("find(2, 0) with a wrong number", x.find(2, 0), -1);
                CHECKS.due("badAt()", x.badAt(), 2);
                Checks.forge(x, 2, 1, i, mask);
                CHECKS.due("find(2, 0) with its number again", x.find(2, 0), 'c');
            }
        }
    }

    private static void goodHasARightSum() {
        CHECKS.sentence("Terms", "and its sum is right");
        for (int i = 2; i < 24; i++) {
            for (int mask = 1; mask < 256; mask *= 2) {
                ThreeFiles x = Checks.filled(1, 2);
                Checks.spoil(x, 0, 0);
                x.poke(1, i, mask);
                CHECKS.due("badAt() with byte " + i + " altered by " + mask, x.badAt(), 1);
                x.poke(1, i, mask);
                CHECKS.due("badAt() with byte " + i + " as it was", x.badAt(), 0);
            }
        }
    }

    private static void readable() {
        CHECKS.sentence("Terms", "It is READABLE when it is good, or both others of its stripe are good");
        for (int bits = 0; bits < 8; bits++) {
            for (int stripe = 0; stripe < 3; stripe++) {
                ThreeFiles x = Checks.filled(3, 6);
                Checks.spoilBits(x, bits, stripe);
                for (int k = 0; k < 2; k++) {
                    int row = 2 * stripe + k;
                    int own = 1 << (stripe + 1 + k) % 3;
                    boolean due = (bits & own) == 0 || bits == own;
                    CHECKS.due("find(" + row + ", 0) with bits " + bits + " not good", x.find(row, 0), due ? 'a' + row : -1);
                }
            }
        }
    }

    private static void readableAsTheOthersMakeIt() {
        CHECKS.sentence("Terms", "then it is as they make it (bytes 2 .. 19 of both, xor; head and sum anew)");
        for (int file = 0; file < 3; file++) {
            ThreeFiles x = Checks.filled(2, 4);
            x.lose(file);
            CHECKS.due("find(2, 0) without file " + file, x.find(2, 0), 'c');
            CHECKS.due("find(3, 0) without file " + file, x.find(3, 0), 'd');
            CHECKS.due("find(3, 1) without file " + file, x.find(3, 1), -1);
            CHECKS.due("rows(2) without file " + file, x.rows(2), 2);
            x.reopen();
            CHECKS.duePiece(x, file, 1, 0, 1, 0);
            CHECKS.dueSum(x, file, 1);
            CHECKS.due("same(" + file + ") as the others made it", x.same(file), true);
        }
    }

    private static void stripes() {
        CHECKS.sentence("Terms", "STRIPES: as many as the file with the most whole pieces has");
        for (int most = 0; most < 3; most++) {
            ThreeFiles x = Checks.filled(4, 8);
            Checks.cutAllTo(x, 23);
            CHECKS.due("odd(0) with 23 bytes in each", x.odd(0), -1);
            CHECKS.due("reopen() with 23 bytes in each", x.reopen(), 0);
            CHECKS.due("size(" + most + ") of no stripes", x.size(most), 0);
            ThreeFiles y = Checks.filled(4, 8);
            y.crash((most + 1) % 3, 71);
            y.lose((most + 2) % 3);
            CHECKS.due("odd(3) with one file whole", y.odd(3), 0);
            y.crash(most, 95);
            CHECKS.due("odd(3) with 95 bytes", y.odd(3), -1);
            CHECKS.due("odd(2) with 95 bytes", y.odd(2), 2);
            y.crash(most, 72);
            CHECKS.due("odd(2) with 72 bytes", y.odd(2), 2);
            y.crash(most, 71);
            CHECKS.due("odd(2) with 71 bytes", y.odd(2), -1);
            CHECKS.due("odd(1) with 71 bytes", y.odd(1), 1);
        }
    }

    private static void openAtFirst() {
        CHECKS.sentence("Terms", "The store is OPEN at first");
        ThreeFiles x = new ThreeFiles(1);
        CHECKS.due("row(1) of a new store", Checks.add(x, 1, "a"), 0);
        CHECKS.due("drop(1) of a new store", x.drop(1), true);
    }

    private static void openBehindReopen() {
        CHECKS.sentence("Terms", "and behind reopen()");
        ThreeFiles x = Checks.filled(2, 2);
        x.lose(0);
        x.scrub(1);
        dueClosed("lose and scrub", x);
        x.reopen();
        dueOpen("reopen", x);
        ThreeFiles never = Checks.filled(2, 2);
        never.reopen();
        dueOpen("reopen of an open one", never);
    }

    private static void closedByHarm() {
        CHECKS.sentence("Terms", "it is CLOSED by crash(), lose() and poke() that are not refused");
        for (int file = 0; file < 3; file++) {
            ThreeFiles crashed = Checks.filled(2, 2);
            crashed.crash(file, 23);
            dueClosed("crash", crashed);
            ThreeFiles lost = Checks.filled(2, 2);
            lost.lose(file);
            dueClosed("lose", lost);
            ThreeFiles poked = Checks.filled(2, 2);
            poked.poke(file, 23, 1);
            dueClosed("poke", poked);
            poked.poke(file, 23, 1);
            dueClosed("a poke that is taken back", poked);
        }
    }

    private static void notClosedByRefusedHarm() {
        CHECKS.sentence("Terms", "that are not refused");
        ThreeFiles x = Checks.filled(2, 2);
        x.crash(0, 24);
        x.crash(3, 0);
        x.crash(0, -1);
        x.lose(3);
        x.lose(-1);
        x.poke(0, 24, 1);
        x.poke(0, 0, 0);
        x.poke(0, 0, 256);
        x.poke(3, 0, 1);
        dueOpen("refused ones", x);
        CHECKS.due("same(0) as long as it never was closed", x.same(0), true);
    }

    private static void dueClosed(String behind, ThreeFiles x) {
        CHECKS.due("row(1) behind " + behind, Checks.add(x, 1, "z"), -1);
        CHECKS.due("drop(2) behind " + behind, x.drop(2), false);
    }

    private static void dueOpen(String behind, ThreeFiles x) {
        CHECKS.due("row(1) behind " + behind, Checks.add(x, 1, "z"), 2);
        CHECKS.due("drop(2) behind " + behind, x.drop(2), true);
    }

    private static void bytesFed() {
        CHECKS.sentence("Terms", "THE BYTES FED are 16 at most");
        ThreeFiles x = new ThreeFiles(1);
        for (int k = 0; k < 16; k++) {
            CHECKS.due("feed " + (k + 1), x.feed(k + 1), true);
        }
        CHECKS.due("feed 17", x.feed(17), false);
        CHECKS.due("feed 18", x.feed(18), false);
        CHECKS.due("row(1)", x.row(1), 0);
        CHECKS.duePiece(x, 1, 0, 3, 16, 1, 2);
        CHECKS.due("find(0, 15)", x.find(0, 15), 16);
        CHECKS.due("byteAt(1, 0, 19)", x.byteAt(1, 0, 19), 16);
        CHECKS.dueSum(x, 1, 0);
    }

    private static void madeFromADroppedOne() {
        CHECKS.sentence("Terms", "one may have been dropped since");
        ThreeFiles x = Checks.filled(1, 2);
        Checks.spoil(x, 1, 0);
        Checks.spoil(x, 0, 0);
        x.reopen();
        CHECKS.due("drop(2), the only good one", x.drop(2), true);
        Checks.spoil(x, 0, 0);
        CHECKS.due("find(0, 0), its length made of two 0s", x.find(0, 0), -1);
        CHECKS.due("rows(1)", x.rows(1), 0);
        CHECKS.due("reopen()", x.reopen(), 0);
        CHECKS.due("mended()", x.mended(), 1);
        CHECKS.duePiece(x, 1, 0, 0, 0, 0, 1 ^ 2 ^ 255, 0, 'a' ^ 'b', 0, 0, 0);
        CHECKS.dueSum(x, 1, 0);
        CHECKS.due("badAt()", x.badAt(), 0);
    }

    private static void madeFromAnAlteredOne() {
        CHECKS.sentence("Terms", "or altered so that its sum is right");
        ThreeFiles x = Checks.filled(1, 2);
        Checks.forge(x, 0, 0, 4, 7);
        Checks.forge(x, 0, 0, 2, 64);
        CHECKS.due("find(0, 0) of the good piece", x.find(0, 0), 'a');
        x.lose(1);
        CHECKS.due("find(0, 0) as the others make it", x.find(0, 0), 'a' ^ 7);
        CHECKS.due("rows(1)", x.rows(1), 0);
        CHECKS.due("rows(65)", x.rows(65), 1);
        CHECKS.due("reopen()", x.reopen(), 2);
        CHECKS.duePiece(x, 1, 0, 0, 0, 0, 65, 1, 'a' ^ 7, 0);
        CHECKS.due("same(1)", x.same(1), false);
    }
}
