import java.util.Arrays;
import java.util.Random;

/**
 * Plays runs of calls, the same ones every time, on the class and on a second, plain telling of the
 * document, and compares every answer; some pokes are such that an altered piece has a right sum.
 */
public final class ModelTest {
    private static final int RUNS = 4000;
    private static final int CALLS = 400;
    private static final int MOST_CALLS = 512;
    private static final int[] ODD_NUMBERS = {-1, 0, 1, 2, 3, 15, 16, 17, 23, 24, 64, 65, 100, 101, 255, 256,
        Integer.MAX_VALUE, Integer.MIN_VALUE};

    private final Checks checks;
    private final Random random;
    private final String name;
    private final ThreeFiles x;
    private final Model model;
    private int calls;

    private ModelTest(Checks checks, int run) {
        this.checks = checks;
        random = new Random(run);
        int pieces = run % 5 == 0 ? random.nextInt(70) - 3 : 1 + random.nextInt(4);
        name = "run " + run + " of ThreeFiles(" + pieces + ") call ";
        x = new ThreeFiles(pieces);
        model = new Model(pieces);
    }

    public static void main(String[] args) {
        Checks checks = new Checks("ModelTest");
        for (int run = 0; run < RUNS; run++) {
            new ModelTest(checks, run).play();
        }
        checks.end();
    }

    private void play() {
        while (calls < CALLS) {
            step();
        }
        while (calls < MOST_CALLS) {
            byteAt(random.nextInt(3), random.nextInt(model.pieces), random.nextInt(24));
        }
    }

    private void step() {
        int kind = random.nextInt(100);
        if (kind < 40) {
            addRow();
        } else if (kind < 70) {
            look();
        } else if (kind < 85) {
            harm();
        } else if (kind < 94) {
            due("reopen()", x.reopen(), model.reopen());
        } else if (kind < 97) {
            scrub(random.nextBoolean() ? 1 + random.nextInt(4) : number(200));
        } else {
            int year = number(4);
            due("drop(" + year + ")", x.drop(year), model.drop(year));
        }
    }

    private void addRow() {
        int count = random.nextInt(8) == 0 ? random.nextInt(18) : random.nextInt(3);
        for (int k = 0; k < count; k++) {
            int b = random.nextInt(20) == 0 ? number(256) : random.nextInt(256);
            due("feed(" + b + ")", x.feed(b), model.feed(b));
        }
        int year = random.nextInt(6) == 0 ? number(101) : 1 + random.nextInt(3);
        due("row(" + year + ")", x.row(year), model.row(year));
    }

    private void look() {
        int row = number(2 * model.stripes() + 1);
        int i = number(17);
        int year = number(4);
        int file = number(3);
        int stripe = number(model.stripes() + 1);
        switch (random.nextInt(8)) {
            case 0 -> due("rows(" + year + ")", x.rows(year), model.rows(year));
            case 1 -> due("mended()", x.mended(), model.mended);
            case 2 -> due("badAt()", x.badAt(), model.badAt());
            case 3 -> due("same(" + file + ")", x.same(file), model.same(file));
            case 4 -> due("odd(" + stripe + ")", x.odd(stripe), model.odd(stripe));
            case 5 -> due("size(" + file + ")", x.size(file), model.size(file));
            case 6 -> byteAt(file, number(model.pieces + 1), number(25));
            default -> due("find(" + row + ", " + i + ")", x.find(row, i), model.find(row, i));
        }
    }

    private void harm() {
        int file = number(3);
        int size = Math.max(1, model.size(file));
        switch (random.nextInt(5)) {
            case 0 -> {
                int kept = random.nextInt(3) == 0 ? number(size) : size - random.nextInt(30);
                due("crash(" + file + ", " + kept + ")", x.crash(file, kept), model.crash(file, kept));
            }
            case 1 -> {
                if (random.nextInt(3) == 0) {
                    due("lose(" + file + ")", x.lose(file), model.lose(file));
                }
            }
            case 2 -> forge(random.nextInt(3));
            default -> poke(file, number(size), random.nextInt(5) == 0 ? number(256) : 1 + random.nextInt(255));
        }
    }

    private void forge(int file) {
        int stripe = random.nextInt(model.stripes() + 1);
        int[] places = {0, 1, 2, 2, 2, 3, 3, 3, 4, 19};
        int i = places[random.nextInt(places.length)];
        int mask = i == 2 ? 1 + random.nextInt(3) : 1 + random.nextInt(255);
        poke(file, stripe * 24 + i, mask);
        if (model.files[file].length < stripe * 24 + 24) {
            return;
        }
        byte[] piece = model.raw(file, stripe);
        byte[] right = piece.clone();
        Model.putSum(right, file);
        for (int k = 20; k < 24; k++) {
            poke(file, stripe * 24 + k, (piece[k] ^ right[k]) & 255);
        }
    }

    private void poke(int file, int place, int mask) {
        due("poke(" + file + ", " + place + ", " + mask + ")", x.poke(file, place, mask), model.poke(file, place, mask));
    }

    private void scrub(int n) {
        due("scrub(" + n + ")", x.scrub(n), model.scrub(n));
    }

    private void byteAt(int file, int piece, int i) {
        long got;
        try {
            got = x.byteAt(file, piece, i);
        } catch (ArrayIndexOutOfBoundsException e) {
            got = Model.THROWN;
        }
        due("byteAt(" + file + ", " + piece + ", " + i + ")", got, model.byteAt(file, piece, i));
    }

    /** Most often one of 0 .. below - 1, now and then a number that is an edge somewhere. */
    private int number(int below) {
        return random.nextInt(12) == 0 ? ODD_NUMBERS[random.nextInt(ODD_NUMBERS.length)] : random.nextInt(below);
    }

    private void due(String call, long got, long want) {
        calls++;
        checks.due(name + calls + ", " + call, got, want);
    }

    private void due(String call, boolean got, boolean want) {
        calls++;
        checks.due(name + calls + ", " + call, got, want);
    }

    /** The document told again, with arrays made anew at every change. */
    private static final class Model {
        static final long THROWN = -999;

        final int pieces;
        byte[][] files = {{}, {}, {}};
        byte[][] before;
        byte[] fed = {};
        boolean open = true;
        int mended;
        int scrubStripe;
        int scrubFile;

        Model(int pieces) {
            this.pieces = 1 <= pieces && pieces <= 64 ? pieces : 1;
        }

        int stripes() {
            int longest = Math.max(files[0].length, Math.max(files[1].length, files[2].length));
            return (longest - longest % 24) / 24;
        }

        byte[] raw(int file, int stripe) {
            return Arrays.copyOfRange(files[file], stripe * 24, stripe * 24 + 24);
        }

        static void putSum(byte[] piece, int file) {
            int s = 0x9E3779B1 + file;
            for (int i = 0; i < 20; i++) {
                s = Integer.rotateLeft(s ^ Byte.toUnsignedInt(piece[i]), 19) * 0x165667B1;
            }
            piece[20] = (byte) s;
            piece[21] = (byte) (s >> 8);
            piece[22] = (byte) (s >> 16);
            piece[23] = (byte) (s >> 24);
        }

        static byte[] headed(byte[] piece, int file, int stripe) {
            piece[0] = (byte) (stripe % 256);
            piece[1] = (byte) (stripe / 256);
            putSum(piece, file);
            return piece;
        }

        /** The piece if it is good, else null. */
        byte[] good(int file, int stripe) {
            if (files[file].length < stripe * 24 + 24) {
                return null;
            }
            byte[] piece = raw(file, stripe);
            return Arrays.equals(piece, headed(piece.clone(), file, stripe)) ? piece : null;
        }

        boolean allGood(int stripe) {
            return good(0, stripe) != null && good(1, stripe) != null && good(2, stripe) != null;
        }

        /** What both others make, null when they are not both good. */
        byte[] made(int file, int stripe) {
            byte[] piece = new byte[24];
            for (int other = 0; other < 3; other++) {
                if (other == file) {
                    continue;
                }
                byte[] from = good(other, stripe);
                if (from == null) {
                    return null;
                }
                for (int i = 2; i < 20; i++) {
                    piece[i] ^= from[i];
                }
            }
            return headed(piece, file, stripe);
        }

        byte[] readable(int file, int stripe) {
            byte[] piece = good(file, stripe);
            return piece != null ? piece : made(file, stripe);
        }

        void write(int file, int stripe, byte[] piece) {
            int length = Math.max(files[file].length, stripe * 24 + 24);
            files[file] = Arrays.copyOf(files[file], length);
            System.arraycopy(piece, 0, files[file], stripe * 24, 24);
        }

        byte[] rowPiece(int file, int stripe, int year, byte[] contents) {
            byte[] piece = new byte[24];
            piece[2] = (byte) year;
            piece[3] = (byte) contents.length;
            System.arraycopy(contents, 0, piece, 4, contents.length);
            return headed(piece, file, stripe);
        }

        boolean feed(int b) {
            if (b < 0 || b > 255 || fed.length == 16) {
                return false;
            }
            fed = Arrays.copyOf(fed, fed.length + 1);
            fed[fed.length - 1] = (byte) b;
            return true;
        }

        int row(int year) {
            if (!open || fed.length == 0 || year < 1 || year > 100) {
                return -1;
            }
            int last = stripes() - 1;
            int second = (last + 2) % 3;
            int answer;
            if (last >= 0 && allGood(last) && good(second, last)[2] == 0) {
                write(second, last, rowPiece(second, last, year, fed));
                write(last % 3, last, made(last % 3, last));
                answer = 2 * last + 1;
            } else if (last + 1 < pieces) {
                int t = last + 1;
                write((t + 1) % 3, t, rowPiece((t + 1) % 3, t, year, fed));
                write((t + 2) % 3, t, rowPiece((t + 2) % 3, t, 0, new byte[0]));
                write(t % 3, t, made(t % 3, t));
                answer = 2 * t;
            } else {
                return -1;
            }
            fed = new byte[0];
            return answer;
        }

        int find(int row, int i) {
            if (row < 0 || row >= 2 * stripes() || i < 0 || i > 15) {
                return -1;
            }
            byte[] piece = readable((row / 2 + (row % 2 == 0 ? 1 : 2)) % 3, row / 2);
            return piece == null || i >= (piece[3] & 255) ? -1 : piece[4 + i] & 255;
        }

        int rows(int year) {
            int count = 0;
            for (int t = 0; t < stripes(); t++) {
                for (int file = 0; file < 3; file++) {
                    byte[] piece = readable(file, t);
                    if (file != t % 3 && piece != null && (piece[2] & 255) == year) {
                        count++;
                    }
                }
            }
            return year >= 1 && year <= 100 ? count : 0;
        }

        boolean drop(int year) {
            if (!open || year < 1 || year > 100) {
                return false;
            }
            boolean any = false;
            for (int t = 0; t < stripes(); t++) {
                boolean all = allGood(t);
                boolean here = false;
                for (int file = 0; file < 3; file++) {
                    byte[] piece = good(file, t);
                    if (file != t % 3 && piece != null && piece[2] == year) {
                        write(file, t, rowPiece(file, t, 255, new byte[0]));
                        here = true;
                    }
                }
                if (here && all) {
                    write(t % 3, t, made(t % 3, t));
                }
                any |= here;
            }
            return any;
        }

        void close() {
            if (open) {
                before = new byte[][] {files[0].clone(), files[1].clone(), files[2].clone()};
            }
            open = false;
        }

        boolean crash(int file, int kept) {
            if (file < 0 || file > 2 || kept < 0 || kept >= files[file].length) {
                return false;
            }
            close();
            files[file] = Arrays.copyOf(files[file], kept);
            return true;
        }

        boolean lose(int file) {
            if (file < 0 || file > 2 || files[file].length == 0) {
                return false;
            }
            close();
            files[file] = new byte[0];
            return true;
        }

        boolean poke(int file, int place, int mask) {
            if (file < 0 || file > 2 || place < 0 || place >= files[file].length || mask < 1 || mask > 255) {
                return false;
            }
            close();
            files[file][place] ^= (byte) mask;
            return true;
        }

        void mend(int file, int stripe) {
            byte[] made = made(file, stripe);
            if (good(file, stripe) == null && made != null) {
                write(file, stripe, made);
                mended++;
            }
        }

        int reopen() {
            int stripes = stripes();
            for (int t = 0; t < stripes; t++) {
                mend(0, t);
                mend(1, t);
                mend(2, t);
            }
            int count = 0;
            for (int file = 0; file < 3; file++) {
                files[file] = Arrays.copyOf(files[file], 24 * stripes);
            }
            for (int t = 0; t < stripes; t++) {
                for (int file = 0; file < 3; file++) {
                    byte[] piece = readable(file, t);
                    if (file != t % 3 && piece != null && piece[3] != 0) {
                        count++;
                    }
                }
            }
            open = true;
            return count;
        }

        int scrub(int n) {
            int stripes = stripes();
            if (n < 1) {
                return -1;
            }
            for (byte[] file : files) {
                if (file.length < 24 * stripes) {
                    return -1;
                }
            }
            if (stripes == 0) {
                return 0;
            }
            if (scrubStripe >= stripes) {
                scrubStripe = 0;
                scrubFile = 0;
            }
            // Whole rounds above some thousand pieces are left out: they end where they begin.
            int steps = n < 2000 ? n : 2000 - 2000 % (3 * stripes) + n % (3 * stripes);
            for (int k = 0; k < steps; k++) {
                mend(scrubFile, scrubStripe);
                scrubFile++;
                if (scrubFile == 3) {
                    scrubFile = 0;
                    scrubStripe = (scrubStripe + 1) % stripes;
                }
            }
            return n;
        }

        int badAt() {
            for (int t = 0; t < stripes(); t++) {
                int bad = 0;
                for (int file = 0; file < 3; file++) {
                    bad += good(file, t) == null ? 1 : 0;
                }
                if (bad >= 2) {
                    return 1 + t;
                }
            }
            return 0;
        }

        long byteAt(int file, int piece, int i) {
            if (file < 0 || file > 2 || piece < 0 || piece >= pieces || i < 0 || i > 23) {
                return THROWN;
            }
            int place = piece * 24 + i;
            return place < files[file].length ? files[file][place] & 255 : 0;
        }

        boolean same(int file) {
            return file >= 0 && file <= 2 && (before == null || Arrays.equals(before[file], files[file]));
        }

        int odd(int stripe) {
            return stripe < 0 || stripe >= stripes() ? -1 : stripe % 3;
        }

        int size(int file) {
            return file < 0 || file > 2 ? -1 : files[file].length;
        }
    }
}
