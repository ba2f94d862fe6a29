/** Promises 6 to 9 and 15: drop, crash, lose, poke, same. */
public final class HarmTest {
    private static final Checks CHECKS = new Checks("HarmTest");

    public static void main(String[] args) {
        dropOfAllRowsOfAYear();
        dropOfAYear();
        dropOfGoodPiecesAlone();
        dropOfAPieceThatIsReadableAlone();
        dropMakesTheSumPieceAgain();
        dropMakesItAgainOnlyIfAllAreGood();
        dropWhileClosed();
        dropOfNoSuchRow();
        crashCuts();
        crashOfNoSuchLength();
        crashOfNoSuchFile();
        loseLeavesNoBytes();
        loseOfNoSuchFile();
        loseOfAFileWithoutBytes();
        pokeAltersAByte();
        pokeOfNoSuchByte();
        pokeOfNoSuchMask();
        sameByteForByte();
        sameSinceTheLatestClosing();
        sameIsOfTheWholeFile();
        sameOfOneNeverClosed();
        sameOfNoSuchFile();
        CHECKS.end();
    }

    private static void dropOfAllRowsOfAYear() {
        CHECKS.sentence("Promise 6", "All rows of a year are dropped. Answers true");
        ThreeFiles x = Checks.filled(4, 7);
        CHECKS.due("drop(1)", x.drop(1), true);
        CHECKS.due("rows(1)", x.rows(1), 0);
        CHECKS.due("rows(2)", x.rows(2), 3);
        for (int row = 0; row < 7; row++) {
            CHECKS.due("find(" + row + ", 0)", x.find(row, 0), row % 2 == 0 ? -1 : 'a' + row);
        }
        CHECKS.due("mended() counts no drops", x.mended(), 0);
        CHECKS.due("drop(1) again", x.drop(1), false);
        ThreeFiles both = new ThreeFiles(1);
        Checks.add(both, 7, "a");
        Checks.add(both, 7, "bc");
        CHECKS.due("drop(7) of both rows of a stripe", both.drop(7), true);
        for (int file = 0; file < 3; file++) {
            CHECKS.duePiece(both, file, 0, 2, file == 0 ? 0 : 255, 0, 0, 0);
            CHECKS.dueSum(both, file, 0);
        }
        ThreeFiles full = new ThreeFiles(64);
        for (int row = 0; row < 128; row++) {
            Checks.add(full, 9, "r");
        }
        CHECKS.due("drop(9) of a full store", full.drop(9), true);
        CHECKS.due("rows(9)", full.rows(9), 0);
        CHECKS.due("badAt()", full.badAt(), 0);
    }

    private static void dropOfAYear() {
        CHECKS.sentence("Promise 6", "of a year, 1 .. 100");
        ThreeFiles x = new ThreeFiles(3);
        for (int year : new int[] {1, 100, 99, 2}) {
            Checks.add(x, year, "y");
        }
        CHECKS.due("drop(1)", x.drop(1), true);
        CHECKS.due("drop(100)", x.drop(100), true);
        CHECKS.due("rows(99)", x.rows(99), 1);
        CHECKS.due("rows(2)", x.rows(2), 1);
        ThreeFiles none = Checks.filled(3, 5);
        none.drop(2);
        Checks.forge(none, 1, 0, 2, 1 ^ 101);
        none.reopen();
        CHECKS.due("a piece of year 101", none.byteAt(1, 0, 2), 101);
        for (int year : Checks.NO_YEARS) {
            CHECKS.due("drop(" + year + ")", none.drop(year), false);
        }
        CHECKS.due("the piece of year 101 stays", none.byteAt(1, 0, 2), 101);
        CHECKS.due("the empty piece stays", none.byteAt(1, 2, 2), 0);
    }

    private static void dropOfGoodPiecesAlone() {
        CHECKS.sentence("Promise 6", "whose pieces are good");
        ThreeFiles x = Checks.filled(3, 6);
        Checks.spoilBits(x, 3, 0);
        x.reopen();
        CHECKS.due("drop(1), of which one is bad", x.drop(1), true);
        CHECKS.duePiece(x, 1, 0, 2, 1, 1, 'a', 0, 0, 1);
        CHECKS.due("a good one of stripe 1 is dropped", x.byteAt(2, 1, 2), 255);
        CHECKS.due("a good one of stripe 2 is dropped", x.byteAt(0, 2, 2), 255);
        CHECKS.due("drop(1) with the bad one left", x.drop(1), false);
        Checks.spoilBits(x, 3, 0);
        CHECKS.due("find(0, 0) of the one left, good again", x.find(0, 0), 'a');
    }

    private static void dropOfAPieceThatIsReadableAlone() {
        CHECKS.sentence("Promise 6", "whose pieces are good, not those that are readable from the others");
        ThreeFiles x = Checks.openWithOneBad(1, 2, true);
        CHECKS.due("rows(2), readable", x.rows(2), 1);
        CHECKS.due("find(1, 0), readable", x.find(1, 0), 'b');
        CHECKS.due("drop(2), not good", x.drop(2), false);
        CHECKS.due("rows(2)", x.rows(2), 1);
        CHECKS.duePiece(x, 2, 0, 2, 2, 1, 'b', 0, 0, 1);
        x.reopen();
        CHECKS.due("drop(2), good", x.drop(2), true);
    }

    private static void dropMakesTheSumPieceAgain() {
        CHECKS.sentence("Promise 6", "the sum pieces of their stripes are made again");
        for (int year = 1; year <= 2; year++) {
            ThreeFiles x = Checks.filled(3, 6);
            x.drop(year);
            for (int stripe = 0; stripe < 3; stripe++) {
                int other = 'a' + 2 * stripe + (2 - year);
                CHECKS.duePiece(x, stripe, stripe, 0, stripe, 0, 255 ^ (3 - year), 1, other, 0);
                CHECKS.dueSum(x, stripe, stripe);
                int left = 2 * stripe + (2 - year);
                ThreeFiles lost = Checks.filled(3, 6);
                lost.drop(year);
                lost.lose((stripe + 1 + left % 2) % 3);
                CHECKS.due("find(" + left + ", 0) from the new sum piece", lost.find(left, 0), other);
            }
        }
        ThreeFiles forged = Checks.filled(1, 2);
        Checks.forge(forged, 0, 0, 10, 9);
        forged.reopen();
        CHECKS.due("an altered sum piece whose sum is right", forged.byteAt(0, 0, 10), 9);
        forged.drop(1);
        CHECKS.duePiece(forged, 0, 0, 2, 255 ^ 2, 1, 'b', 0, 0, 0, 0, 0, 0, 0);
        CHECKS.dueSum(forged, 0, 0);
    }

    private static void dropMakesItAgainOnlyIfAllAreGood() {
        CHECKS.sentence("Promise 6", "if all three pieces are good");
        ThreeFiles x = Checks.filled(2, 2);
        Checks.spoilBits(x, 3, 0);
        x.reopen();
        CHECKS.due("drop(2) of the good piece among two bad", x.drop(2), true);
        CHECKS.duePiece(x, 2, 0, 2, 255, 0, 0);
        CHECKS.duePiece(x, 0, 0, 2, 1 ^ 2, 0, 'a' ^ 'b', 0, 0, 1);
        CHECKS.due("badAt()", x.badAt(), 1);
        ThreeFiles sum = Checks.openWithOneBad(1, 0, true);
        CHECKS.due("drop(2) with the sum piece alone bad", sum.drop(2), true);
        CHECKS.duePiece(sum, 0, 0, 2, 1 ^ 2);
        sum.reopen();
        CHECKS.due("mended(), for the sum piece was left bad", sum.mended(), 1);
        ThreeFiles row = Checks.openWithOneBad(1, 2, true);
        CHECKS.due("drop(1) with the other row alone bad", row.drop(1), true);
        CHECKS.duePiece(row, 0, 0, 2, 1 ^ 2);
        CHECKS.due("find(1, 0), no more what it was", row.find(1, 0), 'a' ^ 'b');
    }

    private static void dropWhileClosed() {
        CHECKS.sentence("Promise 6", "false when it is closed");
        ThreeFiles x = Checks.filled(2, 2);
        x.poke(0, 0, 1);
        x.poke(0, 0, 1);
        CHECKS.due("drop(1) while closed", x.drop(1), false);
        CHECKS.due("rows(1)", x.rows(1), 1);
        CHECKS.due("byteAt(1, 0, 2)", x.byteAt(1, 0, 2), 1);
        x.reopen();
        CHECKS.due("drop(1) behind reopen", x.drop(1), true);
    }

    private static void dropOfNoSuchRow() {
        CHECKS.sentence("Promise 6", "or there is no such row");
        CHECKS.due("drop(1) of a new store", new ThreeFiles(2).drop(1), false);
        ThreeFiles x = Checks.filled(2, 3);
        CHECKS.due("drop(3), the year of a sum piece", x.drop(3), false);
        CHECKS.due("drop(100)", x.drop(100), false);
        CHECKS.due("the sum piece stays", x.byteAt(0, 0, 2), 3);
        CHECKS.due("rows(1)", x.rows(1), 2);
        CHECKS.due("rows(2)", x.rows(2), 1);
    }

    private static void crashCuts() {
        CHECKS.sentence("Promise 7", "A file is cut to so many bytes, 0 or more, less than it has. Answers true");
        for (int kept = 0; kept < 48; kept++) {
            for (int file = 0; file < 3; file++) {
                ThreeFiles x = Checks.filled(3, 4);
                CHECKS.due("crash(" + file + ", " + kept + ")", x.crash(file, kept), true);
                for (int other = 0; other < 3; other++) {
                    CHECKS.due("size(" + other + ")", x.size(other), other == file ? kept : 48);
                }
            }
        }
        ThreeFiles x = Checks.filled(3, 4);
        CHECKS.due("crash(1, 47)", x.crash(1, 47), true);
        CHECKS.due("crash(1, 46) while closed", x.crash(1, 46), true);
        CHECKS.due("crash(1, 0)", x.crash(1, 0), true);
        CHECKS.due("size(1)", x.size(1), 0);
    }

    private static void crashOfNoSuchLength() {
        CHECKS.sentence("Promise 7", "false when these are not such (the bytes)");
        ThreeFiles x = Checks.filled(3, 4);
        for (int kept : new int[] {48, 49, 72, -1, -24, Checks.MAX, Checks.MIN}) {
            CHECKS.due("crash(1, " + kept + ")", x.crash(1, kept), false);
        }
        CHECKS.due("size(1)", x.size(1), 48);
        x.crash(1, 30);
        CHECKS.due("crash(1, 30) of 30", x.crash(1, 30), false);
        CHECKS.due("crash(1, 31) of 30", x.crash(1, 31), false);
        x.crash(1, 0);
        CHECKS.due("crash(1, 0) of none", x.crash(1, 0), false);
        CHECKS.due("crash(0, 0) of a new store", new ThreeFiles(1).crash(0, 0), false);
    }

    private static void crashOfNoSuchFile() {
        CHECKS.sentence("Promise 7", "false when these are not such (the file)");
        ThreeFiles x = Checks.filled(3, 4);
        for (int file : Checks.NO_FILES) {
            CHECKS.due("crash(" + file + ", 0)", x.crash(file, 0), false);
            CHECKS.due("crash(" + file + ", 47)", x.crash(file, 47), false);
        }
        CHECKS.due("still open", Checks.add(x, 1, "e"), 4);
    }

    private static void loseLeavesNoBytes() {
        CHECKS.sentence("Promise 8", "A file is lost: it has no bytes. Answers true");
        for (int file = 0; file < 3; file++) {
            ThreeFiles x = Checks.filled(3, 4);
            CHECKS.due("lose(" + file + ")", x.lose(file), true);
            for (int other = 0; other < 3; other++) {
                CHECKS.due("size(" + other + ")", x.size(other), other == file ? 0 : 48);
            }
            CHECKS.dueAll(x, file, 0, 0, 23, 0);
        }
        ThreeFiles x = Checks.filled(3, 4);
        x.crash(2, 1);
        CHECKS.due("lose(2) of 1 byte", x.lose(2), true);
        CHECKS.due("size(2)", x.size(2), 0);
    }

    private static void loseOfNoSuchFile() {
        CHECKS.sentence("Promise 8", "false when there is none such");
        ThreeFiles x = Checks.filled(3, 4);
        for (int file : Checks.NO_FILES) {
            CHECKS.due("lose(" + file + ")", x.lose(file), false);
        }
        CHECKS.due("still open", Checks.add(x, 1, "e"), 4);
    }

    private static void loseOfAFileWithoutBytes() {
        CHECKS.sentence("Promise 8", "or it has none");
        ThreeFiles x = new ThreeFiles(3);
        for (int file = 0; file < 3; file++) {
            CHECKS.due("lose(" + file + ") of a new store", x.lose(file), false);
        }
        CHECKS.due("still open", Checks.add(x, 1, "a"), 0);
        x.lose(1);
        CHECKS.due("lose(1) again", x.lose(1), false);
        x.crash(2, 0);
        CHECKS.due("lose(2) behind a crash to 0", x.lose(2), false);
        CHECKS.due("lose(0)", x.lose(0), true);
    }

    private static void pokeAltersAByte() {
        CHECKS.sentence("Promise 9", "A byte of a file becomes itself xor a mask, 1 .. 255. Answers true");
        for (int file = 0; file < 3; file++) {
            ThreeFiles x = Checks.filled(3, 4);
            for (int mask = 1 + file; mask < 256; mask += 3) {
                int place = mask / 3 % 48;
                int before = x.byteAt(file, place / 24, place % 24);
                CHECKS.due("poke(" + file + ", " + place + ", " + mask + ")", x.poke(file, place, mask), true);
                CHECKS.due("the byte", x.byteAt(file, place / 24, place % 24), before ^ mask);
            }
        }
        ThreeFiles x = Checks.filled(3, 4);
        CHECKS.due("poke(1, 4, 255)", x.poke(1, 4, 255), true);
        CHECKS.due("byteAt(1, 0, 4)", x.byteAt(1, 0, 4), 'a' ^ 255);
        CHECKS.due("byteAt(1, 0, 3)", x.byteAt(1, 0, 3), 1);
        CHECKS.due("byteAt(1, 0, 5)", x.byteAt(1, 0, 5), 0);
        CHECKS.due("byteAt(0, 0, 4)", x.byteAt(0, 0, 4), 'a' ^ 'b');
        CHECKS.due("size(1)", x.size(1), 48);
    }

    private static void pokeOfNoSuchByte() {
        CHECKS.sentence("Promise 9", "false when there is no such byte");
        ThreeFiles x = Checks.filled(3, 4);
        CHECKS.due("poke(0, 0, 1)", x.poke(0, 0, 1), true);
        CHECKS.due("poke(0, 47, 1)", x.poke(0, 47, 1), true);
        for (int place : new int[] {-1, -24, 48, 49, 71, 72, Checks.MAX, Checks.MIN}) {
            CHECKS.due("poke(0, " + place + ", 1)", x.poke(0, place, 1), false);
        }
        for (int file : Checks.NO_FILES) {
            CHECKS.due("poke(" + file + ", 0, 1)", x.poke(file, 0, 1), false);
        }
        x.crash(0, 30);
        CHECKS.due("poke(0, 30, 1) behind the cut", x.poke(0, 30, 1), false);
        CHECKS.due("byteAt(0, 1, 6)", x.byteAt(0, 1, 6), 0);
        CHECKS.due("poke(0, 29, 1) in front of the cut", x.poke(0, 29, 1), true);
        x.lose(0);
        CHECKS.due("poke(0, 0, 1) of a lost file", x.poke(0, 0, 1), false);
        CHECKS.due("poke(0, 0, 1) of a new store", new ThreeFiles(1).poke(0, 0, 1), false);
    }

    private static void pokeOfNoSuchMask() {
        CHECKS.sentence("Promise 9", "or mask");
        ThreeFiles x = Checks.filled(3, 4);
        for (int mask : new int[] {0, -1, -255, 256, 257, 511, Checks.MAX, Checks.MIN}) {
            CHECKS.due("poke(0, 4, " + mask + ")", x.poke(0, 4, mask), false);
        }
        CHECKS.due("byteAt(0, 0, 4)", x.byteAt(0, 0, 4), 'a' ^ 'b');
        CHECKS.due("still open", Checks.add(x, 1, "e"), 4);
        CHECKS.due("poke(0, 4, 1)", x.poke(0, 4, 1), true);
        CHECKS.due("poke(0, 4, 255)", x.poke(0, 4, 255), true);
    }

    private static void sameByteForByte() {
        CHECKS.sentence("Promise 15", "Whether a file is byte for byte what it was before the store was closed");
        for (int file = 0; file < 3; file++) {
            for (int place = 0; place < 48; place++) {
                ThreeFiles x = Checks.filled(2, 4);
                x.poke(file, place, 64);
                for (int other = 0; other < 3; other++) {
                    CHECKS.due("same(" + other + ") behind poke of " + file, x.same(other), other != file);
                }
                x.poke(file, place, 64);
                CHECKS.due("same(" + file + ") behind the same poke", x.same(file), true);
            }
            ThreeFiles cut = Checks.filled(2, 4);
            cut.crash(file, 47);
            CHECKS.due("same(" + file + ") behind crash", cut.same(file), false);
            CHECKS.due("same of another", cut.same((file + 1) % 3), true);
            cut.reopen();
            CHECKS.due("same(" + file + ") behind reopen", cut.same(file), true);
        }
    }

    private static void sameSinceTheLatestClosing() {
        CHECKS.sentence("Promise 15", "the latest time");
        ThreeFiles x = Checks.filled(3, 2);
        x.lose(0);
        x.lose(1);
        CHECKS.due("same(0) of a lost file, closed before the other", x.same(0), false);
        CHECKS.due("same(1) of a lost file", x.same(1), false);
        x.reopen();
        CHECKS.due("same(0): 0s are not what it was", x.same(0), false);
        CHECKS.due("same(2)", x.same(2), true);
        x.crash(2, 24);
        CHECKS.due("same(0) behind a refused crash", x.same(0), false);
        x.poke(2, 0, 1);
        CHECKS.due("same(0) since the latest closing", x.same(0), true);
        CHECKS.due("same(1) since the latest closing", x.same(1), true);
        CHECKS.due("same(2) since the latest closing", x.same(2), false);
        x.poke(2, 0, 1);
        CHECKS.due("same(2), a closed store is not closed again", x.same(2), true);
        ThreeFiles bad = Checks.filled(3, 2);
        bad.poke(0, 0, 5);
        bad.poke(1, 23, 5);
        CHECKS.due("same(0) altered", bad.same(0), false);
        bad.reopen();
        CHECKS.due("same(0) left as it is", bad.same(0), false);
        bad.lose(2);
        CHECKS.due("same(0) altered before the latest closing", bad.same(0), true);
        CHECKS.due("same(1) altered before the latest closing", bad.same(1), true);
        CHECKS.due("same(2) lost", bad.same(2), false);
    }

    private static void sameIsOfTheWholeFile() {
        CHECKS.sentence("Promise 15", "byte for byte, with files that grew or shrank since");
        ThreeFiles x = Checks.filled(3, 1);
        x.lose(0);
        x.reopen();
        Checks.add(x, 1, "b");
        CHECKS.due("same(1): the first row's piece is as it was", x.same(1), true);
        CHECKS.due("same(2): a row came since", x.same(2), false);
        CHECKS.due("same(0): the sum piece is another", x.same(0), false);
        Checks.add(x, 1, "c");
        CHECKS.due("same(1): a stripe came since", x.same(1), false);
        ThreeFiles zeros = new ThreeFiles(1);
        Checks.add(zeros, 1, Checks.zeroEnded());
        zeros.crash(1, 23);
        CHECKS.due("same(1) without its last byte, a 0", zeros.same(1), false);
        ThreeFiles none = Checks.filled(2, 2);
        Checks.cutAllTo(none, 0);
        none.reopen();
        CHECKS.due("same(0) of no bytes any more", none.same(0), false);
        Checks.add(none, 1, "a");
        Checks.add(none, 2, "b");
        for (int file = 0; file < 3; file++) {
            CHECKS.due("same(" + file + ") written again", none.same(file), true);
        }
    }

    private static void sameOfOneNeverClosed() {
        CHECKS.sentence("Promise 15", "(true as long as it never was)");
        ThreeFiles x = new ThreeFiles(3);
        CHECKS.due("same(0) of a new store", x.same(0), true);
        Checks.add(x, 1, "a");
        x.drop(1);
        x.reopen();
        x.crash(0, 24);
        x.poke(0, 24, 1);
        x.lose(3);
        Checks.add(x, 1, "b");
        for (int file = 0; file < 3; file++) {
            CHECKS.due("same(" + file + ") of one never closed", x.same(file), true);
        }
        x.poke(0, 0, 1);
        CHECKS.due("same(0) of one closed", x.same(0), false);
    }

    private static void sameOfNoSuchFile() {
        CHECKS.sentence("Promise 15", "false when there is none such");
        ThreeFiles x = Checks.filled(3, 2);
        for (int file : Checks.NO_FILES) {
            CHECKS.due("same(" + file + ") of one never closed", x.same(file), false);
        }
        x.lose(0);
        for (int file : Checks.NO_FILES) {
            CHECKS.due("same(" + file + ") while closed", x.same(file), false);
        }
    }
}
