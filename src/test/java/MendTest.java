/** Promises 10 to 12: reopen, scrub, mended. */
public final class MendTest {
    private static final Checks CHECKS = new Checks("MendTest");

    public static void main(String[] args) {
        reopenOpens();
        reopenMakesOneAgain();
        reopenLeavesTwo();
        reopenMakesPiecesOfAShortFile();
        reopenMakesPiecesBehindAGap();
        reopenCutsWhatIsMore();
        reopenWritesZeros();
        reopenMakesFirstAndWritesZerosThen();
        reopenAnswersLengths();
        reopenAnswersWhatCanBeReadThen();
        scrubOfNoPieces();
        scrubOrder();
        scrubGoesRound();
        scrubOfManyRounds();
        scrubGoesOn();
        scrubWithFewerStripes();
        scrubWithMoreStripes();
        scrubLeavesTwo();
        scrubOfOpenAndClosedStores();
        scrubOfNoStripes();
        scrubOfAShortFile();
        scrubOfATail();
        mendedInAll();
        mendedCountsNothingElse();
        CHECKS.end();
    }

    private static void reopenOpens() {
        CHECKS.sentence("Promise 10", "Opens the store");
        ThreeFiles x = Checks.filled(2, 1);
        x.lose(2);
        x.reopen();
        CHECKS.due("row(1) behind reopen", Checks.add(x, 1, "b"), 1);
        CHECKS.due("drop(1) behind reopen", x.drop(1), true);
        CHECKS.due("reopen() of an open store", x.reopen(), 0);
        CHECKS.due("row(1) behind it", Checks.add(x, 1, "c"), 2);
        ThreeFiles bad = Checks.filled(2, 1);
        Checks.spoilBits(bad, 7, 0);
        bad.reopen();
        CHECKS.due("row(1) behind reopen with all bad", Checks.add(bad, 1, "b"), 2);
        ThreeFiles none = Checks.filled(1, 2);
        Checks.cutAllTo(none, 0);
        none.reopen();
        CHECKS.due("row(1) behind reopen of no bytes", Checks.add(none, 1, "b"), 0);
    }

    private static void reopenMakesOneAgain() {
        CHECKS.sentence("Promise 10", "stripe by stripe, a piece that is not good, while both others are, is made again");
        for (int lost = 0; lost < 3; lost++) {
            ThreeFiles x = Checks.filled(4, 7);
            x.lose(lost);
            CHECKS.due("reopen() without file " + lost, x.reopen(), 7);
            CHECKS.due("mended()", x.mended(), 4);
            CHECKS.due("same(" + lost + ")", x.same(lost), true);
            CHECKS.due("the next row", Checks.add(x, 1, "z"), 7);
        }
        ThreeFiles each = Checks.filled(6, 12);
        for (int stripe = 0; stripe < 6; stripe++) {
            each.poke((stripe * 2 + 1) % 3, 24 * stripe + 4 * stripe, 16);
        }
        CHECKS.due("reopen() with one bad in each stripe", each.reopen(), 12);
        CHECKS.due("mended()", each.mended(), 6);
        for (int file = 0; file < 3; file++) {
            CHECKS.due("same(" + file + ")", each.same(file), true);
        }
    }

    private static void reopenLeavesTwo() {
        CHECKS.sentence("Promise 10", "while both others are");
        for (int bits : new int[] {3, 5, 6, 7}) {
            ThreeFiles x = Checks.filled(3, 6);
            Checks.spoilBits(x, bits, 1);
            Checks.spoil(x, 0, 0);
            Checks.spoil(x, 0, 2);
            x.reopen();
            CHECKS.due("mended() with bits " + bits + " not good in stripe 1", x.mended(), 2);
            CHECKS.due("badAt()", x.badAt(), 2);
            for (int file = 0; file < 3; file++) {
                CHECKS.due("same(" + file + ")", x.same(file), (bits >> file & 1) == 0);
            }
        }
    }

    private static void reopenMakesPiecesOfAShortFile() {
        CHECKS.sentence("Promise 10", "(also when its file lacks some of its bytes)");
        for (int kept = 0; kept < 72; kept++) {
            ThreeFiles x = Checks.filled(3, 6);
            int file = kept % 3;
            x.crash(file, kept);
            CHECKS.due("reopen() of a file cut to " + kept, x.reopen(), 6);
            CHECKS.due("mended()", x.mended(), 3 - kept / 24);
            CHECKS.due("size(" + file + ")", x.size(file), 72);
            CHECKS.due("same(" + file + ")", x.same(file), true);
        }
    }

    private static void reopenMakesPiecesBehindAGap() {
        CHECKS.sentence("Promise 10", "(also when its file lacks some of its bytes), those of the pieces before it too");
        ThreeFiles x = Checks.filled(3, 6);
        Checks.spoil(x, 1, 0);
        x.lose(0);
        CHECKS.due("reopen()", x.reopen(), 5);
        CHECKS.due("mended()", x.mended(), 2);
        CHECKS.due("size(0)", x.size(0), 72);
        CHECKS.dueAll(x, 0, 0, 0, 23, 0);
        CHECKS.duePiece(x, 0, 1, 0, 1, 0, 2, 1, 'd', 0);
        CHECKS.duePiece(x, 0, 2, 0, 2, 0, 1, 1, 'e', 0);
        CHECKS.due("badAt()", x.badAt(), 1);
        CHECKS.due("find(0, 0)", x.find(0, 0), -1);
        CHECKS.due("find(1, 0)", x.find(1, 0), 'b');
    }

    private static void reopenCutsWhatIsMore() {
        CHECKS.sentence("Promise 10", "then each file gets as many pieces as there are stripes (what it has more is cut");
        ThreeFiles x = Checks.filled(4, 8);
        x.crash(0, 71);
        x.crash(1, 60);
        x.crash(2, 49);
        CHECKS.due("reopen()", x.reopen(), 4);
        for (int file = 0; file < 3; file++) {
            CHECKS.due("size(" + file + ")", x.size(file), 48);
            CHECKS.dueAll(x, file, 2, 0, 23, 0);
        }
        CHECKS.due("mended()", x.mended(), 0);
        CHECKS.due("the next row", Checks.add(x, 1, "z"), 4);
        CHECKS.duePiece(x, 2, 2, 0, 2, 0, 1, 1, 'z', 0);
        Checks.cutAllTo(x, 23);
        CHECKS.due("reopen() of no stripes", x.reopen(), 0);
        for (int file = 0; file < 3; file++) {
            CHECKS.due("size(" + file + ") of no stripes", x.size(file), 0);
            CHECKS.dueAll(x, file, 0, 0, 23, 0);
        }
        ThreeFiles open = Checks.filled(3, 3);
        CHECKS.due("reopen() of an open store", open.reopen(), 3);
        CHECKS.due("size(0) of an open store", open.size(0), 48);
    }

    private static void reopenWritesZeros() {
        CHECKS.sentence("Promise 10", "what it lacks are 0s)");
        ThreeFiles x = Checks.filled(3, 6);
        x.crash(0, 10);
        x.lose(1);
        CHECKS.due("reopen() of one file", x.reopen(), 2);
        CHECKS.due("size(0)", x.size(0), 72);
        CHECKS.due("size(1)", x.size(1), 72);
        CHECKS.duePiece(x, 0, 0, 0, 0, 0, 3, 0, 'a' ^ 'b', 0, 0, 0, 0, 0);
        CHECKS.dueAll(x, 0, 0, 10, 23, 0);
        CHECKS.dueAll(x, 0, 1, 0, 23, 0);
        CHECKS.dueAll(x, 0, 2, 0, 23, 0);
        for (int piece = 0; piece < 3; piece++) {
            CHECKS.dueAll(x, 1, piece, 0, 23, 0);
        }
        CHECKS.due("poke(1, 71, 1) of a byte that is there again", x.poke(1, 71, 1), true);
        CHECKS.due("the byte", x.byteAt(1, 2, 23), 1);
    }

    private static void reopenMakesFirstAndWritesZerosThen() {
        CHECKS.sentence("Promise 10", "then (first the pieces, then the 0s)");
        ThreeFiles x = Checks.openWithOneBad(2, 2, true);
        CHECKS.due("mended() of two that were not good", x.mended(), 0);
        CHECKS.due("badAt(), one is good with the 0 behind it", x.badAt(), 0);
        CHECKS.due("same(1)", x.same(1), true);
        CHECKS.due("same(2)", x.same(2), false);
        CHECKS.due("reopen() again", x.reopen(), 2);
        CHECKS.due("mended() behind it", x.mended(), 1);
        CHECKS.due("same(2) behind it", x.same(2), true);
    }

    private static void reopenAnswersLengths() {
        CHECKS.sentence("Promise 10", "Answers how many pieces of rows that have a length other than 0");
        CHECKS.due("reopen() of a new store", new ThreeFiles(1).reopen(), 0);
        ThreeFiles x = Checks.filled(3, 5);
        CHECKS.due("reopen() counts no empty ones", x.reopen(), 5);
        x.drop(1);
        CHECKS.due("reopen() counts no dropped ones", x.reopen(), 2);
        Checks.forge(x, 1, 0, 3, 255);
        CHECKS.due("reopen() counts a dropped one of length 255", x.reopen(), 3);
        Checks.forge(x, 1, 2, 3, 128);
        CHECKS.due("reopen() counts an empty one of length 128", x.reopen(), 4);
        Checks.forge(x, 2, 0, 3, 1);
        CHECKS.due("reopen() counts no row of length 0", x.reopen(), 3);
        CHECKS.due("mended() of altered ones whose sums are right", x.mended(), 0);
        ThreeFiles full = new ThreeFiles(64);
        for (int row = 0; row < 128; row++) {
            Checks.add(full, 9, "r");
        }
        CHECKS.due("reopen() of a full store counts no sum pieces", full.reopen(), 128);
        full.lose(0);
        CHECKS.due("reopen() of a full store without file 0", full.reopen(), 128);
    }

    private static void reopenAnswersWhatCanBeReadThen() {
        CHECKS.sentence("Promise 10", "can be read then");
        for (int bits = 0; bits < 8; bits++) {
            ThreeFiles x = Checks.filled(2, 4);
            Checks.spoilBits(x, bits, 0);
            int due = Integer.bitCount(bits) < 2 ? 4 : 2 + Integer.bitCount(~bits & 6);
            CHECKS.due("reopen() with bits " + bits + " not good", x.reopen(), due);
        }
        ThreeFiles x = new ThreeFiles(1);
        Checks.add(x, 1, Checks.zeroEnded());
        Checks.add(x, 2, "b");
        Checks.spoil(x, 2, 0);
        x.crash(1, 23);
        CHECKS.due("find(0, 0) before", x.find(0, 0), -1);
        CHECKS.due("find(1, 0) before", x.find(1, 0), -1);
        CHECKS.due("reopen(), with the 0 behind it both can be read", x.reopen(), 2);
        CHECKS.due("find(0, 0) then", x.find(0, 0), 'a');
        CHECKS.due("find(1, 0) then", x.find(1, 0), 'b');
    }

    private static void scrubOfNoPieces() {
        CHECKS.sentence("Promise 11", "n of 1 or more; NONE when n is below 1");
        ThreeFiles x = Checks.filled(2, 4);
        Checks.spoil(x, 0, 0);
        for (int n : new int[] {0, -1, -6, Checks.MIN}) {
            CHECKS.due("scrub(" + n + ")", x.scrub(n), -1);
        }
        CHECKS.due("mended() behind them", x.mended(), 0);
        CHECKS.due("scrub(1)", x.scrub(1), 1);
        CHECKS.due("mended() behind scrub(1)", x.mended(), 1);
        CHECKS.due("scrub(0) of a new store", new ThreeFiles(1).scrub(0), -1);
        CHECKS.due("scrub(MIN) of a new store", new ThreeFiles(1).scrub(Checks.MIN), -1);
    }

    private static void scrubOrder() {
        CHECKS.sentence("Promise 11", "from piece 0 of file 0, then of files 1, 2, then piece 1 of file 0, and so on");
        for (int at = 0; at < 9; at++) {
            ThreeFiles x = Checks.filled(3, 6);
            Checks.spoil(x, at % 3, at / 3);
            if (at > 0) {
                CHECKS.due("scrub(" + at + ") up to a bad piece", x.scrub(at), at);
            }
            CHECKS.due("mended() in front of place " + at, x.mended(), 0);
            CHECKS.due("scrub(1) over place " + at, x.scrub(1), 1);
            CHECKS.due("mended() behind place " + at, x.mended(), 1);
            CHECKS.due("same(" + at % 3 + ")", x.same(at % 3), true);
        }
    }

    private static void scrubGoesRound() {
        CHECKS.sentence("Promise 11", "behind the last one of the last stripe from the beginning again");
        for (int stripes = 1; stripes <= 3; stripes++) {
            int round = 3 * stripes;
            ThreeFiles x = Checks.filled(3, 2 * stripes);
            x.scrub(round - 1);
            Checks.spoil(x, 0, 0);
            CHECKS.due("scrub(1), the last", x.scrub(1), 1);
            CHECKS.due("mended()", x.mended(), 0);
            CHECKS.due("scrub(1), the first again", x.scrub(1), 1);
            CHECKS.due("mended()", x.mended(), 1);
            Checks.spoil(x, 0, 0);
            CHECKS.due("scrub, all others", x.scrub(round - 1), round - 1);
            CHECKS.due("mended()", x.mended(), 1);
            CHECKS.due("scrub(1)", x.scrub(1), 1);
            CHECKS.due("mended()", x.mended(), 2);
            ThreeFiles across = Checks.filled(3, 2 * stripes);
            across.scrub(round - 1);
            Checks.spoil(across, 0, 0);
            Checks.spoil(across, 2, stripes - 1);
            CHECKS.due("scrub(2) over the last and the first", across.scrub(2), 2);
            CHECKS.due("mended()", across.mended(), stripes == 1 ? 0 : 2);
        }
    }

    private static void scrubOfManyRounds() {
        CHECKS.sentence("Promise 11", "Goes over n pieces more. Answers n");
        for (int n : new int[] {5, 6, 7, 11, 12, 13, 600, 601, Checks.MAX - 1, Checks.MAX}) {
            ThreeFiles x = Checks.filled(2, 4);
            x.scrub(2);
            Checks.spoil(x, 1, 0);
            CHECKS.due("scrub(" + n + ")", x.scrub(n), n);
            CHECKS.due("mended() behind scrub(" + n + ")", x.mended(), n < 6 ? 0 : 1);
            int next = (int) ((2L + n) % 6);
            if (n >= 6) {
                Checks.spoil(x, next % 3, next / 3);
                CHECKS.due("scrub(1) where scrub(" + n + ") ended", x.scrub(1), 1);
                CHECKS.due("mended()", x.mended(), 2);
            }
        }
        ThreeFiles x = Checks.filled(2, 4);
        x.scrub(Checks.MAX);
        x.scrub(Checks.MAX);
        int next = (int) (2L * Checks.MAX % 6);
        Checks.spoil(x, next % 3, next / 3);
        x.scrub(1);
        CHECKS.due("mended() where MAX twice ended", x.mended(), 1);
    }

    private static void scrubGoesOn() {
        CHECKS.sentence("Promise 11", "it goes on where the latest scrub() ended");
        for (int first = 1; first < 6; first++) {
            ThreeFiles x = Checks.filled(2, 4);
            x.scrub(first);
            x.reopen();
            x.drop(1);
            x.scrub(0);
            Checks.spoil(x, first % 3, first / 3);
            CHECKS.due("scrub(1) behind scrub(" + first + ")", x.scrub(1), 1);
            CHECKS.due("mended()", x.mended(), 1);
        }
        ThreeFiles short0 = Checks.filled(2, 4);
        short0.scrub(3);
        short0.crash(0, 47);
        CHECKS.due("scrub(2) of a short file", short0.scrub(2), -1);
        short0.reopen();
        Checks.spoil(short0, 0, 1);
        short0.scrub(1);
        CHECKS.due("mended() where the one before the refused one ended", short0.mended(), 2);
    }

    private static void scrubWithFewerStripes() {
        CHECKS.sentence("Promise 11", "from the beginning when there are not so many stripes any more");
        for (int first = 1; first < 9; first++) {
            for (int stripes = 1; stripes < 3; stripes++) {
                ThreeFiles x = Checks.filled(3, 6);
                x.scrub(first);
                Checks.cutAllTo(x, 24 * stripes);
                int at = first < 3 * stripes ? first : 0;
                Checks.spoil(x, at % 3, at / 3);
                CHECKS.due("scrub(1) behind scrub(" + first + ") with " + stripes + " stripes left", x.scrub(1), 1);
                CHECKS.due("mended()", x.mended(), 1);
            }
        }
        ThreeFiles again = Checks.filled(3, 6);
        again.scrub(7);
        Checks.cutAllTo(again, 24);
        again.reopen();
        for (int row = 2; row < 6; row++) {
            Checks.add(again, 1, "r");
        }
        Checks.spoil(again, 1, 2);
        again.scrub(1);
        CHECKS.due("mended() with as many stripes again", again.mended(), 1);
    }

    /** The document can be read in two ways here; README.md says which way is taken. */
    private static void scrubWithMoreStripes() {
        CHECKS.sentence("Promise 11", "from the beginning again, also if a stripe is added then");
        ThreeFiles end = Checks.filled(3, 4);
        end.scrub(6);
        Checks.add(end, 1, "e");
        Checks.spoil(end, 0, 0);
        Checks.spoil(end, 0, 2);
        end.scrub(1);
        CHECKS.due("mended()", end.mended(), 1);
        CHECKS.due("the first piece is good again", end.byteAt(0, 0, 7), 0);
        ThreeFiles middle = Checks.filled(3, 4);
        middle.scrub(5);
        Checks.add(middle, 1, "e");
        Checks.spoil(middle, 0, 2);
        CHECKS.due("scrub(2), the last of stripe 1 and the first of stripe 2", middle.scrub(2), 2);
        CHECKS.due("mended()", middle.mended(), 1);
    }

    private static void scrubLeavesTwo() {
        CHECKS.sentence("Promise 11", "Each that is not good, while both others are, is made again");
        for (int bits = 0; bits < 8; bits++) {
            ThreeFiles x = Checks.filled(2, 4);
            Checks.spoilBits(x, bits, 1);
            boolean one = Integer.bitCount(bits) == 1;
            CHECKS.due("scrub(6) with bits " + bits + " not good", x.scrub(6), 6);
            CHECKS.due("mended()", x.mended(), one ? 1 : 0);
            for (int file = 0; file < 3; file++) {
                CHECKS.due("same(" + file + ")", x.same(file), one || (bits >> file & 1) == 0);
            }
        }
        ThreeFiles forged = Checks.filled(2, 4);
        Checks.forge(forged, 1, 0, 4, 3);
        forged.scrub(6);
        CHECKS.due("mended() of one altered with its sum", forged.mended(), 0);
        CHECKS.due("byteAt(1, 0, 4)", forged.byteAt(1, 0, 4), 'a' ^ 3);
    }

    private static void scrubOfOpenAndClosedStores() {
        CHECKS.sentence("Promise 11", "Answers n (no word of a closed store)");
        ThreeFiles x = Checks.filled(2, 3);
        CHECKS.due("scrub(6) while open", x.scrub(6), 6);
        Checks.spoil(x, 2, 1);
        CHECKS.due("scrub(6) while closed", x.scrub(6), 6);
        CHECKS.due("mended()", x.mended(), 1);
        CHECKS.due("row(1), scrub does not open", Checks.add(x, 1, "z"), -1);
        ThreeFiles open = Checks.openWithOneBad(2, 2, true);
        CHECKS.due("scrub(3) while open, with one bad", open.scrub(3), 3);
        CHECKS.due("mended() while open", open.mended(), 1);
        CHECKS.due("row(1), scrub does not close", Checks.add(open, 1, "z"), 2);
    }

    private static void scrubOfNoStripes() {
        CHECKS.sentence("Promise 11", "0 when there are no stripes");
        ThreeFiles x = new ThreeFiles(3);
        CHECKS.due("scrub(1) of a new store", x.scrub(1), 0);
        CHECKS.due("scrub(MAX) of a new store", x.scrub(Checks.MAX), 0);
        Checks.add(x, 1, "a");
        CHECKS.due("scrub(1) of one stripe", x.scrub(1), 1);
        x.lose(0);
        x.crash(1, 23);
        x.crash(2, 5);
        CHECKS.due("scrub(1) of 0, 23 and 5 bytes", x.scrub(1), 0);
        x.reopen();
        CHECKS.due("scrub(1) of no bytes", x.scrub(1), 0);
    }

    private static void scrubOfAShortFile() {
        CHECKS.sentence("Promise 11", "NONE when a file has not as many bytes as 24 times the stripes");
        for (int file = 0; file < 3; file++) {
            for (int kept : new int[] {47, 25, 24, 23, 0}) {
                ThreeFiles x = Checks.filled(2, 4);
                Checks.spoil(x, (file + 1) % 3, 0);
                x.crash(file, kept);
                CHECKS.due("scrub(1) with file " + file + " of " + kept, x.scrub(1), -1);
                CHECKS.due("scrub(6) with file " + file + " of " + kept, x.scrub(6), -1);
                CHECKS.due("mended()", x.mended(), 0);
                CHECKS.due("size(" + file + ")", x.size(file), kept);
            }
        }
        ThreeFiles two = Checks.filled(2, 4);
        two.crash(0, 47);
        two.crash(1, 47);
        CHECKS.due("scrub(1) with one file of 48 and two of 47", two.scrub(1), -1);
        two.crash(2, 47);
        CHECKS.due("scrub(1) with all of 47, one stripe", two.scrub(1), 1);
    }

    private static void scrubOfATail() {
        CHECKS.sentence("Promise 11", "has not as many bytes (more are as many)");
        ThreeFiles x = Checks.filled(3, 6);
        Checks.cutAllTo(x, 71);
        x.crash(2, 48);
        Checks.spoil(x, 1, 1);
        CHECKS.due("scrub(6) of files with a tail", x.scrub(6), 6);
        CHECKS.due("mended()", x.mended(), 1);
        CHECKS.due("size(1) keeps its tail", x.size(1), 71);
        CHECKS.due("size(2)", x.size(2), 48);
    }

    private static void mendedInAll() {
        CHECKS.sentence("Promise 12", "How many pieces were made again in all");
        ThreeFiles x = Checks.filled(3, 6);
        CHECKS.due("mended() at first", x.mended(), 0);
        Checks.spoil(x, 1, 0);
        x.scrub(2);
        CHECKS.due("mended() behind scrub", x.mended(), 1);
        x.lose(2);
        x.reopen();
        CHECKS.due("mended() behind reopen", x.mended(), 4);
        x.reopen();
        CHECKS.due("mended() behind reopen of a good store", x.mended(), 4);
        Checks.spoil(x, 1, 0);
        x.reopen();
        CHECKS.due("mended(), the same piece once more", x.mended(), 5);
        CHECKS.due("mended() asked again", x.mended(), 5);
        ThreeFiles most = new ThreeFiles(64);
        for (int row = 0; row < 128; row++) {
            Checks.add(most, 1, "r");
        }
        for (int time = 1; time <= 20; time++) {
            most.lose(time % 3);
            most.reopen();
            CHECKS.due("mended() of 64 pieces " + time + " times", most.mended(), 64 * time);
        }
    }

    private static void mendedCountsNothingElse() {
        CHECKS.sentence("Promise 12", "were made again (from the two others because they were not good)");
        ThreeFiles x = Checks.filled(3, 5);
        x.drop(1);
        x.drop(2);
        Checks.add(x, 1, "z");
        x.find(0, 0);
        CHECKS.due("mended() behind row and drop", x.mended(), 0);
        x.lose(0);
        x.find(0, 0);
        x.rows(1);
        CHECKS.due("mended() behind find of a lost piece", x.mended(), 0);
        x.lose(1);
        x.reopen();
        CHECKS.due("mended() counts no 0s", x.mended(), 0);
    }
}
