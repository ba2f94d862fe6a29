/**
 * Rows kept in stripes over three files: two pieces of each stripe hold rows, one what both are
 * together, byte by byte, in turn by stripe; each piece has a head and a sum.
 */
public final class ThreeFiles {
    public static final int NONE = -1;

    private static final int FILES = 3;
    private static final int MOST_PIECES = 64;
    private static final int ROWS_A_STRIPE = 2;
    private static final int MOST_FED = 16;
    private static final int LAST_YEAR = 100;
    private static final int EMPTY_YEAR = 0;
    private static final int DROPPED_YEAR = 255;
    private static final int BYTE_MASK = 0xFF;

    private static final int PIECE_SIZE = 24;
    private static final int YEAR_AT = 2;
    private static final int LENGTH_AT = 3;
    private static final int CONTENTS_AT = 4;
    private static final int SUM_AT = 20;

    private final int pieces;
    private final StoredFile[] files;
    private final int[] fed;
    private int fedCount;
    private boolean closed;
    private boolean everClosed;
    private int scrubAt;
    private int mendedCount;

    public ThreeFiles(int pieces) {
        this.pieces = pieces >= 1 && pieces <= MOST_PIECES ? pieces : 1;
        files = new StoredFile[FILES];
        for (int file = 0; file < FILES; file++) {
            files[file] = new StoredFile(file, this.pieces * PIECE_SIZE);
        }
        fed = new int[MOST_FED];
    }

    public boolean feed(int b) {
        if (b < 0 || b > BYTE_MASK || fedCount >= MOST_FED) {
            return false;
        }
        fed[fedCount] = b;
        fedCount++;
        return true;
    }

    public int row(int year) {
        if (closed || fedCount == 0 || !isYear(year)) {
            return NONE;
        }
        int row = nextRow();
        int stripe = row / ROWS_A_STRIPE;
        if (stripe >= pieces) {
            return NONE;
        }
        if (row % ROWS_A_STRIPE == 0) {
            writeRow(row + 1, EMPTY_YEAR, 0);
        }
        writeRow(row, year, fedCount);
        makeFromOthers(sumFile(stripe), stripe);
        fedCount = 0;
        return row;
    }

    public int find(int row, int i) {
        if (i < 0 || i >= MOST_FED || i >= readRowByte(row, LENGTH_AT)) {
            return NONE;
        }
        return readRowByte(row, CONTENTS_AT + i);
    }

    public int rows(int year) {
        if (!isYear(year)) {
            return 0;
        }
        int count = 0;
        int end = stripeCount() * ROWS_A_STRIPE;
        for (int row = 0; row < end; row++) {
            if (readRowByte(row, YEAR_AT) == year) {
                count++;
            }
        }
        return count;
    }

    public boolean drop(int year) {
        if (closed || !isYear(year)) {
            return false;
        }
        boolean any = false;
        int stripes = stripeCount();
        for (int stripe = 0; stripe < stripes; stripe++) {
            if (dropInStripe(stripe, year)) {
                any = true;
            }
        }
        return any;
    }

    public boolean crash(int file, int kept) {
        if (!isFile(file) || kept < 0 || kept >= files[file].length()) {
            return false;
        }
        shut();
        files[file].setLength(kept);
        return true;
    }

    public boolean lose(int file) {
        return crash(file, 0);
    }

    public boolean poke(int file, int place, int mask) {
        if (!isFile(file) || !files[file].has(place) || mask < 1 || mask > BYTE_MASK) {
            return false;
        }
        shut();
        files[file].set(place, files[file].get(place) ^ mask);
        return true;
    }

    public int reopen() {
        int stripes = stripeCount();
        for (int stripe = 0; stripe < stripes; stripe++) {
            for (int file = 0; file < FILES; file++) {
                mend(file, stripe);
            }
        }
        for (int file = 0; file < FILES; file++) {
            files[file].setLength(stripes * PIECE_SIZE);
        }
        closed = false;
        return readableRowsWithContents();
    }

    public int scrub(int n) {
        int stripes = stripeCount();
        if (n < 1 || !allFilesReach(stripes * PIECE_SIZE)) {
            return NONE;
        }
        if (stripes == 0) {
            return 0;
        }
        int round = stripes * FILES;
        int start = scrubAt < round ? scrubAt : 0;
        // One round mends all that can be mended, so further rounds would find nothing to do.
        int visits = Math.min(n, round);
        for (int k = 0; k < visits; k++) {
            int at = (start + k) % round;
            mend(at % FILES, at / FILES);
        }
        scrubAt = (start + n % round) % round;
        return n;
    }

    public int mended() {
        return mendedCount;
    }

    public int badAt() {
        int stripes = stripeCount();
        for (int stripe = 0; stripe < stripes; stripe++) {
            if (goodPieces(stripe) < FILES - 1) {
                return stripe + 1;
            }
        }
        return 0;
    }

    public int byteAt(int file, int piece, int i) throws ArrayIndexOutOfBoundsException {
        if (!isFile(file) || piece < 0 || piece >= pieces || i < 0 || i >= PIECE_SIZE) {
            throw new ArrayIndexOutOfBoundsException("no such file, piece or byte of a piece");
        }
        return files[file].get(piece * PIECE_SIZE + i);
    }

    public boolean same(int file) {
        return isFile(file) && (!everClosed || files[file].isAsRemembered());
    }

    public int odd(int stripe) {
        return stripe >= 0 && stripe < stripeCount() ? sumFile(stripe) : NONE;
    }

    public int size(int file) {
        return isFile(file) ? files[file].length() : NONE;
    }

    private static boolean isYear(int year) {
        return year >= 1 && year <= LAST_YEAR;
    }

    private static boolean isFile(int file) {
        return file >= 0 && file < FILES;
    }

    private static int sumFile(int stripe) {
        return stripe % FILES;
    }

    private static int fileOfRow(int row) {
        return (row / ROWS_A_STRIPE + 1 + row % ROWS_A_STRIPE) % FILES;
    }

    private int stripeCount() {
        int most = 0;
        for (int file = 0; file < FILES; file++) {
            most = Math.max(most, files[file].length() / PIECE_SIZE);
        }
        return most;
    }

    private boolean allFilesReach(int length) {
        for (int file = 0; file < FILES; file++) {
            if (files[file].length() < length) {
                return false;
            }
        }
        return true;
    }

    private int goodPieces(int stripe) {
        int good = 0;
        for (int file = 0; file < FILES; file++) {
            if (files[file].isGood(stripe)) {
                good++;
            }
        }
        return good;
    }

    private boolean othersAreGood(int file, int stripe) {
        return files[(file + 1) % FILES].isGood(stripe) && files[(file + 2) % FILES].isGood(stripe);
    }

    private int byteOfOthers(int file, int stripe, int i) {
        int place = stripe * PIECE_SIZE + i;
        return files[(file + 1) % FILES].get(place) ^ files[(file + 2) % FILES].get(place);
    }

    /** Byte i (2 .. 19) of a row's piece as it can be read now, NONE when it can't be. */
    private int readRowByte(int row, int i) {
        int stripe = row / ROWS_A_STRIPE;
        if (row < 0 || stripe >= stripeCount()) {
            return NONE;
        }
        int file = fileOfRow(row);
        if (files[file].isGood(stripe)) {
            return files[file].get(stripe * PIECE_SIZE + i);
        }
        return othersAreGood(file, stripe) ? byteOfOthers(file, stripe, i) : NONE;
    }

    private int readableRowsWithContents() {
        int count = 0;
        int end = stripeCount() * ROWS_A_STRIPE;
        for (int row = 0; row < end; row++) {
            if (readRowByte(row, LENGTH_AT) > 0) {
                count++;
            }
        }
        return count;
    }

    /** An even answer means a new stripe, for which there may be no room. */
    private int nextRow() {
        int end = stripeCount() * ROWS_A_STRIPE;
        return end > 0 && isFree(end - 1) ? end - 1 : end;
    }

    private boolean isFree(int row) {
        return goodPieces(row / ROWS_A_STRIPE) == FILES && readRowByte(row, YEAR_AT) == EMPTY_YEAR;
    }

    /** The contents are the first so many of the bytes fed: none for an empty or dropped row. */
    private void writeRow(int row, int year, int length) {
        int stripe = row / ROWS_A_STRIPE;
        int start = stripe * PIECE_SIZE;
        StoredFile file = files[fileOfRow(row)];
        file.reach(start + PIECE_SIZE);
        file.set(start + YEAR_AT, year);
        file.set(start + LENGTH_AT, length);
        for (int i = 0; i < MOST_FED; i++) {
            file.set(start + CONTENTS_AT + i, i < length ? fed[i] : 0);
        }
        file.seal(stripe);
    }

    private void makeFromOthers(int file, int stripe) {
        int start = stripe * PIECE_SIZE;
        files[file].reach(start + PIECE_SIZE);
        for (int i = YEAR_AT; i < SUM_AT; i++) {
            files[file].set(start + i, byteOfOthers(file, stripe, i));
        }
        files[file].seal(stripe);
    }

    private void mend(int file, int stripe) {
        if (!files[file].isGood(stripe) && othersAreGood(file, stripe)) {
            makeFromOthers(file, stripe);
            mendedCount++;
        }
    }

    private boolean dropInStripe(int stripe, int year) {
        boolean first = dropRow(stripe * ROWS_A_STRIPE, year);
        boolean second = dropRow(stripe * ROWS_A_STRIPE + 1, year);
        boolean any = first || second;
        // A dropped piece is good before and after, so all three can be counted here.
        if (any && goodPieces(stripe) == FILES) {
            makeFromOthers(sumFile(stripe), stripe);
        }
        return any;
    }

    private boolean dropRow(int row, int year) {
        int stripe = row / ROWS_A_STRIPE;
        StoredFile file = files[fileOfRow(row)];
        if (!file.isGood(stripe) || file.get(stripe * PIECE_SIZE + YEAR_AT) != year) {
            return false;
        }
        writeRow(row, DROPPED_YEAR, 0);
        return true;
    }

    /** To be called before a file is harmed: what the files were is kept when the store closes. */
    private void shut() {
        if (closed) {
            return;
        }
        for (int file = 0; file < FILES; file++) {
            files[file].remember();
        }
        closed = true;
        everClosed = true;
    }

    /** The bytes of one file, 0 .. 255 each. */
    private static final class StoredFile {
        private static final int SUM_START = 0x9E3779B1;
        private static final int SUM_FACTOR = 0x165667B1;
        private static final int SUM_TURN = 19;
        private static final int INT_BITS = 32;
        private static final int BYTE_BITS = 8;

        private final int number;
        private final int[] bytes;
        private final int[] remembered;
        private int length;
        private int rememberedLength;

        private StoredFile(int number, int room) {
            this.number = number;
            bytes = new int[room];
            remembered = new int[room];
        }

        private int length() {
            return length;
        }

        private boolean has(int place) {
            return place >= 0 && place < length;
        }

        private int get(int place) {
            return place >= 0 && place < length ? bytes[place] : 0;
        }

        private void set(int place, int value) {
            if (has(place)) {
                bytes[place] = value & BYTE_MASK;
            }
        }

        private void setLength(int wanted) {
            int end = Math.max(0, Math.min(wanted, bytes.length));
            // What lies behind the end is kept 0, so that a file that grows again gains 0s.
            for (int place = end; place < length; place++) {
                bytes[place] = 0;
            }
            length = end;
        }

        private void reach(int wanted) {
            if (length < wanted) {
                setLength(wanted);
            }
        }

        private boolean isGood(int piece) {
            int start = piece * PIECE_SIZE;
            return has(start) && has(start + PIECE_SIZE - 1)
                    && get(start) == lowByte(piece) && get(start + 1) == lowByte(piece >>> BYTE_BITS)
                    && hasSum(start, sum(start));
        }

        /** To be called when the rest of a piece stands: its sum is over all of that and its number. */
        private void seal(int piece) {
            int start = piece * PIECE_SIZE;
            set(start, lowByte(piece));
            set(start + 1, lowByte(piece >>> BYTE_BITS));
            int rest = sum(start);
            for (int i = SUM_AT; i < PIECE_SIZE; i++) {
                set(start + i, lowByte(rest));
                rest >>>= BYTE_BITS;
            }
        }

        private boolean hasSum(int start, int sum) {
            int rest = sum;
            for (int i = SUM_AT; i < PIECE_SIZE; i++) {
                if (get(start + i) != lowByte(rest)) {
                    return false;
                }
                rest >>>= BYTE_BITS;
            }
            return true;
        }

        private int sum(int start) {
            int s = SUM_START + number;
            for (int i = 0; i < SUM_AT; i++) {
                s ^= get(start + i);
                s = ((s << SUM_TURN) | (s >>> (INT_BITS - SUM_TURN))) * SUM_FACTOR;
            }
            return s;
        }

        private static int lowByte(int value) {
            return value & BYTE_MASK;
        }

        private void remember() {
            for (int place = 0; place < bytes.length; place++) {
                remembered[place] = bytes[place];
            }
            rememberedLength = length;
        }

        private boolean isAsRemembered() {
            if (length != rememberedLength) {
                return false;
            }
            for (int place = 0; place < length; place++) {
                if (bytes[place] != remembered[place]) {
                    return false;
                }
            }
            return true;
        }
    }
}
