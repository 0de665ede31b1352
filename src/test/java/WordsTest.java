import java.util.Arrays;

/** What the class answers is what the words under 'Terms' say: DIGEST, STREAM and BLOCKS, taken from Words alone. */
public final class WordsTest {
    private static final int[] LENGTHS = {5, 10, 11, 16};

    public static void main(String[] args) {
        digests();
        streams();
        blocks();
        Check.end();
    }

    private static void digests() {
        Sentence s = Sentence.ofTerms("The DIGEST is A, B, C, D.");
        for (int many = 0; many <= 200; many++) {
            digestOf(s, Sheets.some(many, many));
        }
        digestOf(s, Sheets.some(8000, 3));
    }

    private static void digestOf(Sentence s, byte[] row) {
        SheetKeys x = new SheetKeys();
        Sheets.load(x, row);
        x.digest();
        s.same("of " + row.length + " bytes", Sheets.result(x), Words.digest(row));
    }

    private static SheetKeys opened(int length) {
        SheetKeys x = new SheetKeys();
        x.handler(4, length, length * 0x01030507, true);
        x.enter(0);
        x.enter(1);
        Check.same("open() by no bytes", x.open(), 1);
        return x;
    }

    /** Of object 0x010203, generation 0x0405. */
    private static byte[] objectKey(SheetKeys x, int method) {
        byte[] key = Sheets.key(x);
        byte[] digest = Words.digest(Model.joined(key, Sheets.hex(method == 2 ? "030201050473416C54" : "0302010504")));
        return Arrays.copyOf(digest, Math.min(16, key.length + 5));
    }

    private static void streams() {
        Sentence s = Sentence.ofTerms("STREAM of a row by a key of n bytes: a table T of 256 bytes is 0 .. 255; with "
                + "j = 0, for i from 0 to 255: j = (j + T(i) + byte i modulo n of the key) modulo 256, and T(i), T(j) "
                + "are changed for one another.");
        for (int length : LENGTHS) {
            for (int many = 0; many <= 300; many += 25) {
                SheetKeys x = opened(length);
                byte[] row = Sheets.some(many, length);
                byte[] due = Words.stream(row, objectKey(x, 1));
                Sheets.load(x, row);
                s.same("seal of " + many, x.seal(0x010203, 0x0405, 1, 0, 0), many);
                s.same(many + " sealed, length " + length, Sheets.result(x), due);
                Sheets.load(x, due);
                s.same("undo of " + many, x.undo(0x010203, 0x0405, 1), many);
                s.same("the first of " + many, x.at(0), many == 0 ? SheetKeys.NONE : row[0] & 255);
                s.same("the last of " + many, x.at(many - 1), many == 0 ? SheetKeys.NONE : row[many - 1] & 255);
            }
        }
    }

    private static void blocks() {
        Sentence s = Sentence.ofTerms("MAKING a block: ^ the first four COLUMNS; then ten rounds: each byte SWAPPED; "
                + "row r (the bytes r, r + 4, ..) turned by r places, so that byte r + 4 k becomes the one of "
                + "r + 4 (k + r); but in the last round: each COLUMN p, q, s, t becomes 2 p ^ 3 q ^ s ^ t, "
                + "p ^ 2 q ^ 3 s ^ t, p ^ q ^ 2 s ^ 3 t, 3 p ^ q ^ s ^ 2 t; ^ the next four COLUMNS.");
        for (int length : LENGTHS) {
            for (int many = 0; many <= 99; many += 9) {
                SheetKeys x = opened(length);
                byte[] row = Sheets.some(many, length);
                byte[] due = sealed(row, Arrays.copyOf(objectKey(x, 2), 16));
                Sheets.load(x, row);
                s.same("seal of " + many, x.seal(0x010203, 0x0405, 2, 0x01020304, 0x85868788), due.length);
                s.same(many + " sealed, length " + length, Sheets.result(x), due);
                Sheets.load(x, due);
                s.same("undo of " + many, x.undo(0x010203, 0x0405, 2), many);
                s.same(many + " undone, length " + length, Sheets.result(x), row);
            }
        }
    }

    private static byte[] sealed(byte[] row, byte[] key) {
        byte[] filling = new byte[16 - row.length % 16];
        Arrays.fill(filling, (byte) filling.length);
        byte[] sealed = Model.joined(Sheets.hex("0102030485868788FEFDFCFB7A797877"), row, filling);
        for (int start = 16; start < sealed.length; start += 16) {
            byte[] block = new byte[16];
            for (int i = 0; i < 16; i++) {
                block[i] = (byte) (sealed[start + i] ^ sealed[start - 16 + i]);
            }
            System.arraycopy(Words.makeBlock(block, key), 0, sealed, start, 16);
        }
        return sealed;
    }
}
