/** Promises 6 to 9 and 15: drop, crash, lose, poke, same. */
public final class HarmTest {
    private static final Checks CHECKS = new Checks("HarmTest");
    private static final int[] NO_FILES = {-1, 3, Integer.MAX_VALUE, Integer.MIN_VALUE};

    public static void main(String[] args) {
        drop();
        dropRefused();
        dropBothRowsOfAStripe();
        dropLeavesBadPieces();
        dropInAStripeThatIsNotAllGood();
        crash();
        lose();
        poke();
        refusedHarmLeavesTheStoreOpen();
        same();
        sameBehindALaterRow();
        CHECKS.end();
    }

    private static void drop() {
        ThreeFiles x = new ThreeFiles(3);
        Checks.add(x, 1, "abc");
        Checks.add(x, 2, "de");
        Checks.add(x, 100, "f");
        CHECKS.due("drop(1)", x.drop(1), true);
        CHECKS.duePiece(x, 1, 0, 0, 0, 0, 255, 0, 0, 0, 0, 0);
        CHECKS.duePiece(x, 2, 0, 0, 0, 0, 2, 2, 'd', 'e', 0, 0);
        CHECKS.duePiece(x, 0, 0, 0, 0, 0, 255 ^ 2, 2, 'd', 'e', 0, 0);
        CHECKS.due("badAt() behind drop", x.badAt(), 0);
        CHECKS.due("mended() counts no drops", x.mended(), 0);
        CHECKS.due("find(0, 0) behind drop", x.find(0, 0), -1);
        CHECKS.due("find(1, 1) behind drop", x.find(1, 1), 'e');
        CHECKS.due("drop(1) again", x.drop(1), false);
        CHECKS.due("drop(100)", x.drop(100), true);
        CHECKS.due("rows(100)", x.rows(100), 0);
        x.lose(2);
        CHECKS.due("find(1, 0) from the new sum piece", x.find(1, 0), 'd');
        CHECKS.due("reopen()", x.reopen(), 1);
        CHECKS.due("same(2)", x.same(2), true);
    }

    private static void dropRefused() {
        ThreeFiles x = Checks.filled(3, 3);
        int[] years = {0, -1, 3, 101, 255, Integer.MAX_VALUE, Integer.MIN_VALUE};
        for (int year : years) {
            CHECKS.due("drop(" + year + ")", x.drop(year), false);
        }
        CHECKS.due("the empty piece stays", x.byteAt(0, 1, 2), 0);
        x.drop(2);
        CHECKS.due("drop(255)", x.drop(255), false);
        x.lose(0);
        CHECKS.due("drop(1) while closed", x.drop(1), false);
        CHECKS.due("rows(1) behind a refused drop", x.rows(1), 2);
        x.reopen();
        CHECKS.due("drop(1) behind reopen", x.drop(1), true);
    }

    private static void dropBothRowsOfAStripe() {
        ThreeFiles x = new ThreeFiles(1);
        Checks.add(x, 7, "a");
        Checks.add(x, 7, "bc");
        CHECKS.due("drop(7)", x.drop(7), true);
        for (int file = 0; file < 3; file++) {
            CHECKS.duePiece(x, file, 0, 2, file == 0 ? 0 : 255, 0, 0, 0);
        }
        CHECKS.due("badAt()", x.badAt(), 0);
    }

    private static void dropLeavesBadPieces() {
        ThreeFiles x = Checks.filled(2, 2);
        x.poke(1, 5, 1);
        x.poke(0, 5, 1);
        x.reopen();
        CHECKS.due("drop(1) of a bad piece", x.drop(1), false);
        CHECKS.due("its year stays", x.byteAt(1, 0, 2), 1);
    }

    private static void dropInAStripeThatIsNotAllGood() {
        ThreeFiles x = Checks.filled(2, 2);
        x.poke(1, 5, 1);
        x.poke(2, 5, 1);
        x.poke(2, 5, 1);
        x.poke(0, 4, 1);
        x.reopen();
        int sumByte = x.byteAt(0, 0, 4);
        CHECKS.due("drop(2) of the good piece among two bad", x.drop(2), true);
        CHECKS.duePiece(x, 2, 0, 2, 255, 0, 0);
        CHECKS.duePiece(x, 0, 0, 2, 1 ^ 2, 0, sumByte);
        CHECKS.due("badAt()", x.badAt(), 1);
        x.poke(0, 4, 1);
        CHECKS.due("the other row from the old sum piece", x.find(0, 0), -1);
        CHECKS.due("reopen() makes it from what there is", x.reopen(), 0);
        CHECKS.duePiece(x, 1, 0, 2, 1 ^ 2 ^ 255, 0, 'a' ^ 'b');
    }

    private static void crash() {
        ThreeFiles x = Checks.filled(3, 4);
        CHECKS.due("crash(1, 48)", x.crash(1, 48), false);
        CHECKS.due("crash(1, -1)", x.crash(1, -1), false);
        CHECKS.due("crash(1, MAX)", x.crash(1, Integer.MAX_VALUE), false);
        CHECKS.due("crash(1, MIN)", x.crash(1, Integer.MIN_VALUE), false);
        for (int file : NO_FILES) {
            CHECKS.due("crash(" + file + ", 0)", x.crash(file, 0), false);
        }
        CHECKS.due("size(1) behind refused ones", x.size(1), 48);
        CHECKS.due("crash(1, 47)", x.crash(1, 47), true);
        CHECKS.due("size(1)", x.size(1), 47);
        CHECKS.due("size(0)", x.size(0), 48);
        CHECKS.due("crash(1, 0)", x.crash(1, 0), true);
        CHECKS.due("crash(1, 0) again", x.crash(1, 0), false);
        CHECKS.due("row(1) behind crash", Checks.add(x, 1, "z"), -1);
    }

    private static void lose() {
        ThreeFiles x = new ThreeFiles(3);
        CHECKS.due("lose(0) of an empty file", x.lose(0), false);
        Checks.add(x, 1, "a");
        for (int file : NO_FILES) {
            CHECKS.due("lose(" + file + ")", x.lose(file), false);
        }
        CHECKS.due("lose(2)", x.lose(2), true);
        CHECKS.due("size(2)", x.size(2), 0);
        CHECKS.due("lose(2) again", x.lose(2), false);
        CHECKS.due("row(1) behind lose", Checks.add(x, 1, "z"), -1);
    }

    private static void poke() {
        ThreeFiles x = Checks.filled(3, 2);
        int[] noPlaces = {-1, 24, 71, Integer.MAX_VALUE, Integer.MIN_VALUE};
        for (int place : noPlaces) {
            CHECKS.due("poke(0, " + place + ", 1)", x.poke(0, place, 1), false);
        }
        int[] noMasks = {0, -1, 256, 257, Integer.MAX_VALUE, Integer.MIN_VALUE};
        for (int mask : noMasks) {
            CHECKS.due("poke(0, 4, " + mask + ")", x.poke(0, 4, mask), false);
        }
        for (int file : NO_FILES) {
            CHECKS.due("poke(" + file + ", 0, 1)", x.poke(file, 0, 1), false);
        }
        CHECKS.due("byteAt(1, 0, 4)", x.byteAt(1, 0, 4), 'a');
        CHECKS.due("poke(1, 4, 255)", x.poke(1, 4, 255), true);
        CHECKS.due("byteAt(1, 0, 4)", x.byteAt(1, 0, 4), 'a' ^ 255);
        CHECKS.due("poke(1, 23, 1)", x.poke(1, 23, 1), true);
        CHECKS.due("poke(0, 0, 1)", x.poke(0, 0, 1), true);
        CHECKS.due("byteAt(0, 0, 0)", x.byteAt(0, 0, 0), 1);
        CHECKS.due("row(1) behind poke", Checks.add(x, 1, "z"), -1);
    }

    private static void refusedHarmLeavesTheStoreOpen() {
        ThreeFiles x = Checks.filled(3, 2);
        x.crash(0, 24);
        x.crash(3, 0);
        x.lose(3);
        x.poke(0, 24, 1);
        x.poke(0, 0, 0);
        CHECKS.due("still open behind refused calls", Checks.add(x, 1, "c"), 2);
        CHECKS.due("same(0) as long as it never was closed", x.same(0), true);
    }

    private static void same() {
        ThreeFiles x = Checks.filled(3, 2);
        CHECKS.due("same(1) of one never closed", x.same(1), true);
        x.poke(1, 4, 3);
        CHECKS.due("same(1) behind poke", x.same(1), false);
        CHECKS.due("same(0) behind poke", x.same(0), true);
        x.poke(1, 4, 3);
        CHECKS.due("same(1) behind the same poke", x.same(1), true);
        x.crash(1, 23);
        CHECKS.due("same(1) behind crash", x.same(1), false);
        x.reopen();
        CHECKS.due("same(1) behind reopen", x.same(1), true);
        x.lose(0);
        x.lose(1);
        x.reopen();
        CHECKS.due("same(0): 0s are not what it was", x.same(0), false);
        CHECKS.due("same(2)", x.same(2), true);
        x.poke(2, 0, 1);
        CHECKS.due("same(0) since the latest closing", x.same(0), true);
        CHECKS.due("same(2) since the latest closing", x.same(2), false);
    }

    private static void sameBehindALaterRow() {
        ThreeFiles x = Checks.filled(3, 1);
        x.lose(0);
        x.reopen();
        Checks.add(x, 1, "b");
        CHECKS.due("same(1): the first row's piece is as it was", x.same(1), true);
        CHECKS.due("same(2): a row came since", x.same(2), false);
        Checks.add(x, 1, "c");
        CHECKS.due("same(1): a stripe came since", x.same(1), false);
    }
}
