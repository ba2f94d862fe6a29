/**
 * "A call that is refused changes nothing.": two stores are made alike, one of them gets a call that
 * is refused, and then both answer the same calls, which show all that a store holds.
 */
public final class RefusedTest {
    private static final Checks CHECKS = new Checks("RefusedTest");
    private static final int PIECES = 2;

    private interface Maker {
        ThreeFiles make();
    }

    private interface Call {
        Object on(ThreeFiles x);
    }

    public static void main(String[] args) {
        feed();
        feedOfA17th();
        row();
        rowWithNothingFed();
        rowWhileClosed();
        rowWithoutRoom();
        drop();
        dropWhileClosed();
        crash();
        lose();
        poke();
        harmOfEmptyFiles();
        scrub();
        scrubOfAShortFile();
        byteAt();
        callsThatOnlyLook();
        CHECKS.end();
    }

    private static void sentence(String call) {
        CHECKS.sentence("Terms", "A call that is refused changes nothing, " + call);
    }

    /** Open, closed once before, with two bytes fed, a row since, and scrub() in the middle. */
    private static ThreeFiles open() {
        ThreeFiles x = Checks.filled(PIECES, 2);
        x.poke(1, 9, 32);
        x.reopen();
        Checks.add(x, 1, "c");
        x.scrub(4);
        Checks.feed(x, "yz");
        return x;
    }

    private static ThreeFiles closed() {
        ThreeFiles x = open();
        x.poke(2, 30, 4);
        return x;
    }

    private static ThreeFiles cut() {
        ThreeFiles x = open();
        x.crash(0, 47);
        return x;
    }

    private static ThreeFiles full() {
        ThreeFiles x = open();
        x.row(2);
        Checks.feed(x, "yz");
        return x;
    }

    private static ThreeFiles sixteenFed() {
        ThreeFiles x = open();
        Checks.feed(x, "0123456789abcd");
        return x;
    }

    private static ThreeFiles nothingFed() {
        ThreeFiles x = Checks.filled(PIECES, 1);
        x.poke(0, 3, 1);
        x.reopen();
        return x;
    }

    private static ThreeFiles empty() {
        return new ThreeFiles(PIECES);
    }

    /** Two rows, of which one piece is not good though the store is open. */
    private static ThreeFiles openWithOneBad() {
        return Checks.openWithOneBad(1, 0, false);
    }

    private static void feed() {
        sentence("feed");
        for (int b : new int[] {-1, 256, 256 + 'q', Checks.MAX, Checks.MIN}) {
            dueNothing("feed(" + b + ")", RefusedTest::open, x -> x.feed(b), false);
            dueNothing("feed(" + b + ")", RefusedTest::closed, x -> x.feed(b), false);
            dueNothing("feed(" + b + ")", RefusedTest::nothingFed, x -> x.feed(b), false);
        }
    }

    private static void feedOfA17th() {
        sentence("feed with 16");
        dueNothing("feed('q')", RefusedTest::sixteenFed, x -> x.feed('q'), false);
    }

    private static void row() {
        sentence("row");
        for (int year : Checks.NO_YEARS) {
            dueNothing("row(" + year + ")", RefusedTest::open, x -> x.row(year), -1);
            dueNothing("row(" + year + ")", RefusedTest::sixteenFed, x -> x.row(year), -1);
        }
    }

    private static void rowWithNothingFed() {
        sentence("row with nothing fed");
        dueNothing("row(1)", RefusedTest::nothingFed, x -> x.row(1), -1);
        dueNothing("row(1)", RefusedTest::empty, x -> x.row(1), -1);
    }

    private static void rowWhileClosed() {
        sentence("row while closed");
        dueNothing("row(1)", RefusedTest::closed, x -> x.row(1), -1);
        dueNothing("row(1)", RefusedTest::cut, x -> x.row(1), -1);
    }

    private static void rowWithoutRoom() {
        sentence("row without room");
        dueNothing("row(1)", RefusedTest::full, x -> x.row(1), -1);
        dueNothing("row(1) of a store with one bad", () -> {
            ThreeFiles x = openWithOneBad();
            x.feed('q');
            return x;
        }, x -> x.row(1), -1);
    }

    private static void drop() {
        sentence("drop");
        for (int year : Checks.NO_YEARS) {
            dueNothing("drop(" + year + ")", RefusedTest::open, x -> x.drop(year), false);
        }
        dueNothing("drop(3), of which there is none", RefusedTest::open, x -> x.drop(3), false);
        dueNothing("drop(1) of an empty store", RefusedTest::empty, x -> x.drop(1), false);
    }

    private static void dropWhileClosed() {
        sentence("drop while closed");
        dueNothing("drop(1)", RefusedTest::closed, x -> x.drop(1), false);
        dueNothing("drop(1)", RefusedTest::cut, x -> x.drop(1), false);
    }

    private static void crash() {
        sentence("crash");
        for (int kept : new int[] {48, 49, -1, Checks.MAX, Checks.MIN}) {
            dueNothing("crash(1, " + kept + ")", RefusedTest::open, x -> x.crash(1, kept), false);
            dueNothing("crash(1, " + kept + ")", RefusedTest::closed, x -> x.crash(1, kept), false);
        }
        for (int file : Checks.NO_FILES) {
            dueNothing("crash(" + file + ", 0)", RefusedTest::open, x -> x.crash(file, 0), false);
        }
        dueNothing("crash(0, 47) of 47", RefusedTest::cut, x -> x.crash(0, 47), false);
    }

    private static void lose() {
        sentence("lose");
        for (int file : Checks.NO_FILES) {
            dueNothing("lose(" + file + ")", RefusedTest::open, x -> x.lose(file), false);
            dueNothing("lose(" + file + ")", RefusedTest::closed, x -> x.lose(file), false);
        }
    }

    private static void poke() {
        sentence("poke");
        for (int place : new int[] {-1, 48, 49, Checks.MAX, Checks.MIN}) {
            dueNothing("poke(1, " + place + ", 1)", RefusedTest::open, x -> x.poke(1, place, 1), false);
        }
        for (int mask : new int[] {0, -1, 256, 257, Checks.MAX, Checks.MIN}) {
            dueNothing("poke(1, 4, " + mask + ")", RefusedTest::open, x -> x.poke(1, 4, mask), false);
            dueNothing("poke(1, 4, " + mask + ")", RefusedTest::closed, x -> x.poke(1, 4, mask), false);
        }
        for (int file : Checks.NO_FILES) {
            dueNothing("poke(" + file + ", 4, 1)", RefusedTest::open, x -> x.poke(file, 4, 1), false);
        }
        dueNothing("poke(0, 47, 1) behind the cut", RefusedTest::cut, x -> x.poke(0, 47, 1), false);
    }

    private static void harmOfEmptyFiles() {
        sentence("crash, lose and poke of a file that has no bytes");
        dueNothing("crash(0, 0)", RefusedTest::empty, x -> x.crash(0, 0), false);
        dueNothing("lose(0)", RefusedTest::empty, x -> x.lose(0), false);
        dueNothing("poke(0, 0, 1)", RefusedTest::empty, x -> x.poke(0, 0, 1), false);
        Maker lost = () -> {
            ThreeFiles x = open();
            x.lose(0);
            return x;
        };
        dueNothing("crash(0, 0) of a lost file", lost, x -> x.crash(0, 0), false);
        dueNothing("lose(0) of a lost file", lost, x -> x.lose(0), false);
        dueNothing("poke(0, 0, 1) of a lost file", lost, x -> x.poke(0, 0, 1), false);
    }

    private static void scrub() {
        sentence("scrub");
        for (int n : new int[] {0, -1, Checks.MIN}) {
            dueNothing("scrub(" + n + ")", RefusedTest::open, x -> x.scrub(n), -1);
            dueNothing("scrub(" + n + ")", RefusedTest::closed, x -> x.scrub(n), -1);
            dueNothing("scrub(" + n + ")", RefusedTest::empty, x -> x.scrub(n), -1);
        }
    }

    private static void scrubOfAShortFile() {
        sentence("scrub of a short file");
        for (int n : new int[] {1, 2, 6, 100, Checks.MAX}) {
            dueNothing("scrub(" + n + ")", RefusedTest::cut, x -> x.scrub(n), -1);
            dueNothing("scrub(" + n + ") with a bad piece where it goes on", () -> {
                ThreeFiles x = open();
                Checks.spoil(x, 1, 1);
                Checks.spoil(x, 1, 0);
                x.crash(2, 47);
                return x;
            }, x -> x.scrub(n), -1);
        }
    }

    private static void byteAt() {
        sentence("byteAt");
        int t = Checks.THROWN;
        dueNothing("byteAt(3, 0, 0)", RefusedTest::open, x -> Checks.byteAt(x, 3, 0, 0), t);
        dueNothing("byteAt(0, 2, 0)", RefusedTest::open, x -> Checks.byteAt(x, 0, PIECES, 0), t);
        dueNothing("byteAt(0, 0, 24)", RefusedTest::open, x -> Checks.byteAt(x, 0, 0, 24), t);
        dueNothing("byteAt(0, 0, 24)", RefusedTest::closed, x -> Checks.byteAt(x, 0, 0, 24), t);
    }

    private static void callsThatOnlyLook() {
        sentence("find, rows, same, odd and size");
        dueNothing("find(4, 0)", RefusedTest::open, x -> x.find(4, 0), -1);
        dueNothing("find(0, 16)", RefusedTest::open, x -> x.find(0, 16), -1);
        dueNothing("find(-1, 0)", RefusedTest::closed, x -> x.find(-1, 0), -1);
        dueNothing("rows(0)", RefusedTest::open, x -> x.rows(0), 0);
        dueNothing("rows(101)", RefusedTest::closed, x -> x.rows(101), 0);
        dueNothing("same(3)", RefusedTest::open, x -> x.same(3), false);
        dueNothing("odd(2)", RefusedTest::open, x -> x.odd(2), -1);
        dueNothing("size(3)", RefusedTest::open, x -> x.size(3), -1);
    }

    private static void dueNothing(String call, Maker maker, Call refused, Object answer) {
        CHECKS.due(call, String.valueOf(refused.on(maker.make())), String.valueOf(answer));
        dueAlike(call, maker, refused, RefusedTest::allThatCanBeSeen);
        dueAlike(call, maker, refused, RefusedTest::whatWasFed);
        dueAlike(call, maker, refused, RefusedTest::whetherOpen);
        dueAlike(call, maker, refused, RefusedTest::whatReopenMakes);
        for (int at = 0; at < 3 * PIECES; at++) {
            int place = at;
            dueAlike(call, maker, refused, x -> whetherScrubGoesOnAt(x, place));
        }
    }

    private static void dueAlike(String call, Maker maker, Call refused, Call look) {
        ThreeFiles one = maker.make();
        ThreeFiles other = maker.make();
        refused.on(other);
        CHECKS.due("what a store tells behind " + call, String.valueOf(look.on(other)), String.valueOf(look.on(one)));
    }

    private static String allThatCanBeSeen(ThreeFiles x) {
        StringBuilder told = new StringBuilder();
        for (int file = 0; file < 3; file++) {
            told.append(x.size(file)).append(x.same(file) ? " same:" : " other:");
            for (int place = 0; place < 24 * PIECES; place++) {
                told.append(' ').append(Checks.byteAt(x, file, place / 24, place % 24));
            }
        }
        return told.append(" mended ").append(x.mended()).append(" bad ").append(x.badAt()).toString();
    }

    private static String whatWasFed(ThreeFiles x) {
        x.lose(0);
        x.lose(1);
        x.lose(2);
        x.reopen();
        boolean more = x.feed('!');
        return more + " " + x.row(77) + allThatCanBeSeen(x);
    }

    private static String whetherOpen(ThreeFiles x) {
        return x.drop(1) + " " + x.row(7) + allThatCanBeSeen(x);
    }

    private static String whatReopenMakes(ThreeFiles x) {
        return x.reopen() + allThatCanBeSeen(x);
    }

    private static String whetherScrubGoesOnAt(ThreeFiles x, int at) {
        x.reopen();
        x.poke(at % 3, at / 3 * 24 + 8, 1);
        return x.scrub(1) + " " + x.mended();
    }
}
