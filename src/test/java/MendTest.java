/** Promises 10 to 12: reopen, scrub, mended. */
public final class MendTest {
    private static final Checks CHECKS = new Checks("MendTest");

    public static void main(String[] args) {
        reopenMakesEachFileAgain();
        reopenMakesCutAndAlteredPieces();
        reopenEvensTheFiles();
        reopenLeavesWhatTwoLack();
        reopenOfAnOpenStore();
        reopenCountsLengths();
        scrubRefused();
        scrubOrder();
        scrubGoesRound();
        scrubOfManyRounds();
        scrubWithFewerStripes();
        scrubKeepsItsPlaceWhenRefused();
        scrubWithATail();
        CHECKS.end();
    }

    private static void reopenMakesEachFileAgain() {
        for (int lost = 0; lost < 3; lost++) {
            ThreeFiles x = Checks.filled(4, 7);
            x.lose(lost);
            CHECKS.due("reopen() without file " + lost, x.reopen(), 7);
            CHECKS.due("mended()", x.mended(), 4);
            CHECKS.due("size", x.size(lost), 96);
            CHECKS.due("same", x.same(lost), true);
            CHECKS.due("the store is open", Checks.add(x, 1, "z"), 7);
        }
    }

    private static void reopenMakesCutAndAlteredPieces() {
        ThreeFiles x = Checks.filled(4, 8);
        x.crash(0, 95);
        x.poke(1, 3, 16);
        x.poke(2, 24 + 21, 4);
        x.poke(2, 48, 4);
        CHECKS.due("mended() before", x.mended(), 0);
        CHECKS.due("reopen()", x.reopen(), 8);
        CHECKS.due("mended()", x.mended(), 4);
        for (int file = 0; file < 3; file++) {
            CHECKS.due("same(" + file + ")", x.same(file), true);
        }
        x.poke(1, 3, 16);
        x.reopen();
        CHECKS.due("mended() in all", x.mended(), 5);
    }

    private static void reopenEvensTheFiles() {
        ThreeFiles x = Checks.filled(4, 8);
        x.crash(0, 70);
        x.crash(1, 60);
        x.crash(2, 50);
        CHECKS.due("reopen()", x.reopen(), 4);
        for (int file = 0; file < 3; file++) {
            CHECKS.due("size(" + file + ")", x.size(file), 48);
            CHECKS.duePiece(x, file, 2, 0, 0, 0, 0, 0);
        }
        CHECKS.due("mended()", x.mended(), 0);
        CHECKS.due("the next row", Checks.add(x, 1, "z"), 4);
        CHECKS.duePiece(x, 2, 2, 2, 1, 1, 'z', 0);
        x.crash(0, 23);
        x.crash(1, 23);
        x.crash(2, 23);
        CHECKS.due("reopen() of no stripes", x.reopen(), 0);
        CHECKS.due("size(1) of no stripes", x.size(1), 0);
    }

    private static void reopenLeavesWhatTwoLack() {
        ThreeFiles x = Checks.filled(3, 6);
        x.crash(0, 10);
        x.poke(1, 0, 1);
        CHECKS.due("reopen()", x.reopen(), 5);
        CHECKS.due("mended()", x.mended(), 2);
        CHECKS.due("badAt()", x.badAt(), 1);
        CHECKS.due("size(0)", x.size(0), 72);
        CHECKS.duePiece(x, 0, 0, 0, 0, 0, 3, 0, 'a' ^ 'b', 0, 0, 0, 0, 0, 0, 0, 0, 0, 0, 0, 0, 0, 0, 0, 0, 0, 0, 0);
        CHECKS.duePiece(x, 0, 1, 0, 1, 0, 2, 1, 'd');
        CHECKS.due("find(0, 0)", x.find(0, 0), -1);
        CHECKS.due("find(1, 0)", x.find(1, 0), 'b');
        x.lose(0);
        x.lose(1);
        CHECKS.due("reopen() of one file", x.reopen(), 2);
        CHECKS.due("size(0)", x.size(0), 72);
        CHECKS.due("0s behind what was cut", x.byteAt(0, 2, 2), 0);
    }

    private static void reopenOfAnOpenStore() {
        ThreeFiles x = Checks.filled(3, 3);
        CHECKS.due("reopen() of an open store", x.reopen(), 3);
        CHECKS.due("mended()", x.mended(), 0);
        CHECKS.due("same(0)", x.same(0), true);
        CHECKS.due("size(0)", x.size(0), 48);
        CHECKS.due("reopen() of a new one", new ThreeFiles(1).reopen(), 0);
    }

    private static void reopenCountsLengths() {
        ThreeFiles x = Checks.filled(3, 5);
        x.drop(1);
        CHECKS.due("reopen() counts no dropped and empty ones", x.reopen(), 2);
        Checks.forge(x, 1, 0, 3, 200);
        CHECKS.due("reopen() counts a dropped one with a length", x.reopen(), 3);
        CHECKS.due("mended() of forged ones", x.mended(), 0);
    }

    private static void scrubRefused() {
        ThreeFiles x = new ThreeFiles(3);
        CHECKS.due("scrub(1) of no stripes", x.scrub(1), 0);
        CHECKS.due("scrub(0) of no stripes", x.scrub(0), -1);
        Checks.add(x, 1, "a");
        CHECKS.due("scrub(0)", x.scrub(0), -1);
        CHECKS.due("scrub(-1)", x.scrub(-1), -1);
        CHECKS.due("scrub(MIN)", x.scrub(Integer.MIN_VALUE), -1);
        CHECKS.due("scrub(1)", x.scrub(1), 1);
        x.crash(2, 23);
        CHECKS.due("scrub(1) of a short file", x.scrub(1), -1);
        CHECKS.due("scrub(9) of a short file", x.scrub(9), -1);
        CHECKS.due("mended()", x.mended(), 0);
        x.lose(0);
        x.lose(1);
        CHECKS.due("scrub(1) with a tail of 23 bytes and no stripes", x.scrub(1), 0);
        CHECKS.due("scrub(0) with no stripes", x.scrub(0), -1);
    }

    private static void scrubOrder() {
        for (int stripe = 0; stripe < 3; stripe++) {
            for (int file = 0; file < 3; file++) {
                ThreeFiles x = Checks.filled(3, 6);
                x.poke(file, stripe * 24 + 6, 1);
                int before = stripe * 3 + file;
                if (before > 0) {
                    CHECKS.due("scrub up to a bad piece", x.scrub(before), before);
                }
                CHECKS.due("mended() before it", x.mended(), 0);
                CHECKS.due("scrub(1) over it", x.scrub(1), 1);
                CHECKS.due("mended() behind it", x.mended(), 1);
                CHECKS.due("same behind it", x.same(file), true);
                CHECKS.due("scrub does not open", Checks.add(x, 1, "z"), -1);
            }
        }
        ThreeFiles two = Checks.filled(1, 2);
        two.poke(0, 0, 1);
        two.poke(1, 0, 1);
        CHECKS.due("scrub(6) over two bad", two.scrub(6), 6);
        CHECKS.due("mended() of two bad", two.mended(), 0);
    }

    private static void scrubGoesRound() {
        ThreeFiles x = Checks.filled(2, 4);
        CHECKS.due("scrub(5)", x.scrub(5), 5);
        x.poke(0, 0, 1);
        CHECKS.due("scrub(1), the last", x.scrub(1), 1);
        CHECKS.due("mended()", x.mended(), 0);
        CHECKS.due("scrub(1), the first again", x.scrub(1), 1);
        CHECKS.due("mended()", x.mended(), 1);
        x.poke(0, 0, 1);
        CHECKS.due("scrub(5), all others", x.scrub(5), 5);
        CHECKS.due("mended()", x.mended(), 1);
        CHECKS.due("scrub(1)", x.scrub(1), 1);
        CHECKS.due("mended()", x.mended(), 2);
    }

    private static void scrubOfManyRounds() {
        ThreeFiles x = Checks.filled(2, 4);
        x.poke(2, 24, 1);
        x.poke(0, 1, 1);
        CHECKS.due("scrub(MAX)", x.scrub(Integer.MAX_VALUE), Integer.MAX_VALUE);
        CHECKS.due("mended()", x.mended(), 2);
        int next = Integer.MAX_VALUE % 6;
        x.poke(next % 3, next / 3 * 24, 1);
        CHECKS.due("scrub(1) where MAX pieces ended", x.scrub(1), 1);
        CHECKS.due("mended()", x.mended(), 3);
        CHECKS.due("scrub(MAX)", x.scrub(Integer.MAX_VALUE), Integer.MAX_VALUE);
        next = (next + 1 + next) % 6;
        x.poke(next % 3, next / 3 * 24, 1);
        x.scrub(1);
        CHECKS.due("mended()", x.mended(), 4);
    }

    private static void scrubWithFewerStripes() {
        ThreeFiles x = Checks.filled(3, 6);
        x.scrub(7);
        cutAllTo(x, 48);
        x.poke(0, 0, 1);
        CHECKS.due("scrub(1) from the beginning", x.scrub(1), 1);
        CHECKS.due("mended()", x.mended(), 1);
        ThreeFiles y = Checks.filled(3, 6);
        y.scrub(4);
        cutAllTo(y, 48);
        y.poke(1, 24, 1);
        CHECKS.due("scrub(1) at a place that is still there", y.scrub(1), 1);
        CHECKS.due("mended()", y.mended(), 1);
        ThreeFiles z = Checks.filled(3, 6);
        z.scrub(6);
        cutAllTo(z, 48);
        z.poke(0, 0, 1);
        CHECKS.due("scrub(1) at a place that is just gone", z.scrub(1), 1);
        CHECKS.due("mended()", z.mended(), 1);
    }

    private static void scrubKeepsItsPlaceWhenRefused() {
        ThreeFiles x = Checks.filled(2, 4);
        x.scrub(3);
        x.scrub(0);
        x.crash(0, 47);
        x.scrub(2);
        x.reopen();
        x.poke(0, 24, 1);
        CHECKS.due("scrub(1) behind refused ones", x.scrub(1), 1);
        CHECKS.due("mended()", x.mended(), 2);
    }

    private static void scrubWithATail() {
        ThreeFiles x = Checks.filled(3, 6);
        cutAllTo(x, 60);
        x.poke(1, 30, 1);
        CHECKS.due("scrub(6) of files with a tail", x.scrub(6), 6);
        CHECKS.due("mended()", x.mended(), 1);
        CHECKS.due("size(1) keeps its tail", x.size(1), 60);
    }

    private static void cutAllTo(ThreeFiles x, int kept) {
        for (int file = 0; file < 3; file++) {
            x.crash(file, kept);
        }
    }
}
