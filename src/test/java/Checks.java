/** Counts and prints the answers that are not as due, and has a few ways to fill and harm a store. */
final class Checks {
    static final int MAX = Integer.MAX_VALUE;
    static final int MIN = Integer.MIN_VALUE;
    static final int[] NO_FILES = {-1, 3, 4, MAX, MIN};
    static final int[] NO_YEARS = {0, -1, 101, 255, 256, 257, MAX, MIN};
    /** Stands for the answer of a call that throws the exception of the document. */
    static final int THROWN = -999;

    private final String name;
    private String sentence = "";
    private int sentences;
    private int wrong;

    Checks(String name) {
        this.name = name;
    }

    /** The sentence of the document that the checks from here on are about. */
    void sentence(String where, String words) {
        sentence = " [" + where + ": " + words + "]";
        sentences++;
    }

    void due(String call, long got, long want) {
        if (got != want) {
            tell(call, got, want);
        }
    }

    void due(String call, boolean got, boolean want) {
        if (got != want) {
            tell(call, got, want);
        }
    }

    void due(String call, String got, String want) {
        if (!got.equals(want)) {
            tell(call, got, want);
        }
    }

    private void tell(String call, Object got, Object want) {
        wrong++;
        System.out.println(name + sentence + ": " + call + " answered " + got + ", due is " + want);
    }

    /** Bytes from the first one on of a piece. */
    void duePiece(ThreeFiles x, int file, int piece, int first, int... want) {
        for (int k = 0; k < want.length; k++) {
            int i = first + k;
            due("byteAt(" + file + ", " + piece + ", " + i + ")", byteAt(x, file, piece, i), want[k]);
        }
    }

    /** The same byte from one place of a piece to another, both included. */
    void dueAll(ThreeFiles x, int file, int piece, int first, int last, int want) {
        for (int i = first; i <= last; i++) {
            due("byteAt(" + file + ", " + piece + ", " + i + ")", byteAt(x, file, piece, i), want);
        }
    }

    /** The sum of a piece, as it is told by the bytes in front of it. */
    void dueSum(ThreeFiles x, int file, int piece) {
        int s = sum(x, file, piece);
        duePiece(x, file, piece, 20, s & 255, s >>> 8 & 255, s >>> 16 & 255, s >>> 24);
    }

    void end() {
        String told = sentences == 0 ? "" : sentences + " sentences, ";
        System.out.println(name + ": " + told
                + (wrong == 0 ? "all answers are as due" : wrong + " answers are not as due"));
        if (wrong != 0) {
            System.exit(1);
        }
    }

    static int byteAt(ThreeFiles x, int file, int piece, int i) {
        try {
            return x.byteAt(file, piece, i);
        } catch (ArrayIndexOutOfBoundsException e) {
            return THROWN;
        }
    }

    static void feed(ThreeFiles x, String text) {
        for (int i = 0; i < text.length(); i++) {
            x.feed(text.charAt(i));
        }
    }

    /** Feeds the characters of a text and makes them a row. */
    static int add(ThreeFiles x, int year, String text) {
        feed(x, text);
        return x.row(year);
    }

    /** A store with so many rows, row k being of year 1 + k % 2 and holding one byte, 'a' + k. */
    static ThreeFiles filled(int pieces, int rows) {
        ThreeFiles x = new ThreeFiles(pieces);
        for (int k = 0; k < rows; k++) {
            add(x, 1 + k % 2, String.valueOf((char) ('a' + k)));
        }
        return x;
    }

    /** Alters the contents of a piece, so that its sum is wrong. */
    static void spoil(ThreeFiles x, int file, int piece) {
        x.poke(file, 24 * piece + 7, 1);
    }

    /** Spoils the pieces of a stripe whose bits (1, 2 and 4 for files 0, 1 and 2) are set. */
    static void spoilBits(ThreeFiles x, int bits, int stripe) {
        for (int file = 0; file < 3; file++) {
            if ((bits >> file & 1) != 0) {
                spoil(x, file, stripe);
            }
        }
    }

    static void cutAllTo(ThreeFiles x, int kept) {
        for (int file = 0; file < 3; file++) {
            x.crash(file, kept);
        }
    }

    /** The sum of a piece as it stands, told from the document and not from the program. */
    static int sum(ThreeFiles x, int file, int piece) {
        int s = 0x9E3779B1 + file;
        for (int i = 0; i < 20; i++) {
            s = Integer.rotateLeft(s ^ x.byteAt(file, piece, i), 19) * 0x165667B1;
        }
        return s;
    }

    /** Alters a byte of a piece and then its sum, so that the sum is right again. */
    static void forge(ThreeFiles x, int file, int piece, int i, int mask) {
        x.poke(file, piece * 24 + i, mask);
        int s = sum(x, file, piece);
        for (int k = 0; k < 4; k++) {
            x.poke(file, piece * 24 + 20 + k, x.byteAt(file, piece, 20 + k) ^ (s >>> 8 * k & 255));
        }
    }

    /** Three bytes for row 0, 'a' first, with which as a row of year 1 its piece ends in a 0. */
    static String zeroEnded() {
        for (int tried = 0; tried < 65536; tried++) {
            String text = "a" + (char) (tried % 256) + (char) (tried / 256);
            ThreeFiles x = new ThreeFiles(1);
            add(x, 1, text);
            if (x.byteAt(1, 0, 23) == 0) {
                return text;
            }
        }
        throw new IllegalStateException("no piece ends in a 0");
    }

    /**
     * An open store of which one piece of stripe 0, that of the file told (0 or 2), is not good:
     * reopen() found the piece of file 1 cut and could not make either again, then the 0 that it
     * wrote behind file 1 happened to be the byte that was cut. Row 0 is of year 1, row 1, if there
     * shall be one, of year 2, "b".
     */
    static ThreeFiles openWithOneBad(int pieces, int bad, boolean secondRow) {
        ThreeFiles x = new ThreeFiles(pieces);
        add(x, 1, zeroEnded());
        if (secondRow) {
            add(x, 2, "b");
        }
        spoil(x, bad, 0);
        x.crash(1, 23);
        x.reopen();
        return x;
    }
}
