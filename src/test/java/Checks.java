/** Counts and prints the answers that are not as due, and has a few ways to fill a store. */
final class Checks {
    private final String name;
    private int wrong;

    Checks(String name) {
        this.name = name;
    }

    void due(String call, long got, long want) {
        if (got != want) {
            wrong++;
            System.out.println(name + ": " + call + " answered " + got + ", due is " + want);
        }
    }

    void due(String call, boolean got, boolean want) {
        if (got != want) {
            wrong++;
            System.out.println(name + ": " + call + " answered " + got + ", due is " + want);
        }
    }

    /** Bytes from the first one on of a piece. */
    void duePiece(ThreeFiles x, int file, int piece, int first, int... want) {
        for (int k = 0; k < want.length; k++) {
            int i = first + k;
            due("byteAt(" + file + ", " + piece + ", " + i + ")", x.byteAt(file, piece, i), want[k]);
        }
    }

    void end() {
        System.out.println(name + ": " + (wrong == 0 ? "all answers are as due" : wrong + " answers are not as due"));
        if (wrong != 0) {
            System.exit(1);
        }
    }

    /** Feeds the characters of a text and makes them a row. */
    static int add(ThreeFiles x, int year, String text) {
        for (int i = 0; i < text.length(); i++) {
            x.feed(text.charAt(i));
        }
        return x.row(year);
    }

    /** A store with so many rows, row k being of year 1 + k % 2 and holding one byte, 'a' + k. */
    static ThreeFiles filled(int pieces, int rows) {
        ThreeFiles x = new ThreeFiles(pieces);
        for (int k = 0; k < rows; k++) {
            add(x, 1 + k % 2, String.valueOf((char) ('a' + k)));
        }
        return x;
    }

    /** The sum of a piece as it stands, told from the document and not from the program. */
    static int sum(ThreeFiles x, int file, int piece) {
        int s = 0x9E3779B1 + file;
        for (int i = 0; i < 20; i++) {
            s = Integer.rotateLeft(s ^ x.byteAt(file, piece, i), 19) * 0x165667B1;
        }
        return s;
    }

    /** Alters a byte of a piece and then its sum, so that the sum is right again. */
    static void forge(ThreeFiles x, int file, int piece, int i, int mask) {
        x.poke(file, piece * 24 + i, mask);
        int s = sum(x, file, piece);
        for (int k = 0; k < 4; k++) {
            x.poke(file, piece * 24 + 20 + k, x.byteAt(file, piece, 20 + k) ^ (s >>> 8 * k & 255));
        }
    }
}
