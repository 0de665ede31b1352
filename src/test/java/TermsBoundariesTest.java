import java.util.Arrays;

/** The boundary cases that the words under 'Terms' name, sentence by sentence. */
public final class TermsBoundariesTest {
    private static final int[] LENGTHS_AT_32 = {0, 1, 31, 32, 33, 63, 64};

    public static void main(String[] args) {
        digestFillsUpTo64();
        digestCountsBits();
        digestWrapsAround();
        streamWrapsAround();
        swapOfEachByte();
        paddedCounts32();
        handlersNumber();
        keyWithDataLeftOut();
        keyByTheRevision();
        ownersKeyTakesAllSixteen();
        userEntryByTheRevision();
        usersByTheRevision();
        ownersAsAPasswordOf32();
        objectsKeyHasSixteenAtMost();
        objectsNumberHasThreeBytes();
        shortKeysForBlocks();
        undoingLeavesOut();
        sealingFillsUp();
        theFirstExceptionWins();
        Check.end();
    }

    private static byte[] filled(int many, int b) {
        byte[] bytes = new byte[many];
        Arrays.fill(bytes, (byte) b);
        return bytes;
    }

    private static void digests(Sentence s, String what, byte[] bytes) {
        SheetKeys x = new SheetKeys();
        Sheets.load(x, bytes);
        x.digest();
        s.same(what, Sheets.result(x), Model.digestOf(bytes));
    }

    private static void digestFillsUpTo64() {
        Sentence s = Sentence.ofTerms("Behind the row come a byte 128, as many 0 as it takes that the whole is a "
                + "multiple of 64 with eight more, and these: how many bits the row has, the lowest byte first.");
        for (int many = 0; many <= 130; many++) {
            digests(s, "of " + many, Sheets.some(many, many));
        }
        SheetKeys x = new SheetKeys();
        Sheets.load(x, Sheets.text("ABCDEFGHIJKLMNOPQRSTUVWXYZabcdefghijklmnopqrstuvwxyz0123456789"));
        x.digest();
        s.same("of 62 letters and digits", Sheets.result(x), Sheets.hex("d174ab98d277d9f5a5611c2c9f419d9f"));
        // A byte behind the row that an earlier, longer row left must not count.
        Sheets.load(x, filled(60, 255));
        x.cut(3);
        x.digest();
        s.same("of three bytes of a longer row", Sheets.result(x), Model.digestOf(filled(3, 255)));
    }

    private static void digestCountsBits() {
        Sentence s = Sentence.ofTerms("Behind the row come a byte 128, as many 0 as it takes that the whole is a "
                + "multiple of 64 with eight more, and these: how many bits the row has, the lowest byte first.");
        int[] lengths = {31, 32, 33, 8191, 8192, 8193, 9600};
        for (int many : lengths) {
            digests(s, "of " + many, Sheets.some(many, 6));
        }
    }

    private static void digestWrapsAround() {
        Sentence s = Sentence.ofTerms("a, b, c, d are added to A, B, C, D (all sums modulo 2 to the power of 32).");
        int[] bytes = {0, 127, 128, 255};
        int[] lengths = {55, 56, 64, 128};
        for (int b : bytes) {
            for (int many : lengths) {
                digests(s, "of " + many + " times " + b, filled(many, b));
            }
        }
    }

    private static void streamWrapsAround() {
        Sentence s = Sentence.ofTerms("Then with i = j = 0, for each byte: i + 1, j + T(i) (modulo 256), T(i), T(j) "
                + "changed for one another, and the byte ^ T((T(i) + T(j)) modulo 256).");
        int[] lengths = {0, 1, 254, 255, 256, 257};
        for (int length = 5; length <= 16; length++) {
            for (int many : lengths) {
                Locked both = Locked.opened(3, length);
                both.load(Sheets.some(many, 3));
                both.model.seal(9, 8, 1, 0, 0);
                s.same("how many of " + many, both.x.seal(9, 8, 1, 0, 0), many);
                s.same(many + " bytes by a key of " + length, Sheets.result(both.x), both.model.result);
            }
        }
    }

    private static void swapOfEachByte() {
        Sentence s = Sentence.ofTerms("SWAP of a byte: its inverse (0 of 0), v; v ^ (v turned to the left by 1, 2, 3, "
                + "4 places) ^ 99.");
        byte[][] rows = {new byte[64], filled(64, 255), Sheets.some(128, 1)};
        for (int i = 0; i < rows.length; i++) {
            Locked both = Locked.opened(4, 16);
            both.load(rows[i]);
            both.model.seal(1, 0, 2, 0, 0);
            both.x.seal(1, 0, 2, 0, 0);
            s.same("row " + i + " sealed", Sheets.result(both.x), both.model.result);
            both.x.keep();
            s.same("row " + i + " undone", both.x.undo(1, 0, 2), rows[i].length);
            s.same("row " + i + " as it was", Sheets.result(both.x), rows[i]);
        }
    }

    private static void paddedCounts32() {
        Sentence s = Sentence.ofTerms("PADDED is a password of which at most 32 bytes count, with the first of these "
                + "behind it, 32 in all: (hexadecimal) 28 BF 4E 5E 4E 75 8A 41 64 00 4E 56 FF FA 01 08 2E 2E 00 B6 D0 "
                + "68 3E 80 2F 0C A9 FE 64 53 69 7A (THE PAD).");
        byte[] long64 = Sheets.some(64, 4);
        byte[] other64 = Model.joined(Arrays.copyOf(long64, 32), Sheets.some(32, 7));
        byte[] last = long64.clone();
        last[31] ^= 1;
        Locked both = Locked.by(3, 16, long64, long64);
        s.same("the bytes from 32 on do not count", both.open(other64), 1);
        s.same("byte 31 counts", both.open(last), 0);
        for (int many : LENGTHS_AT_32) {
            Locked told = Locked.by(3, 16, Sheets.some(many, 4), Sheets.some(many, 5));
            s.same("the owner entry by passwords of " + many, Sheets.entry(told.x, 0), told.model.owner);
            s.same("the user entry by passwords of " + many, Sheets.entry(told.x, 1), told.model.user);
            byte[] whole = Model.padded(Sheets.some(many, 5));
            s.same("a password of " + many + " with what comes behind it", told.open(whole), 1);
        }
    }

    private static void handlersNumber() {
        Sentence s = Sentence.ofTerms("THE HANDLER has a REVISION 2 .. 4, a LENGTH n 5 .. 16 (5 for REVISION 2), "
                + "PERMISSIONS (32 bits), and may leave out the document's own DATA; an OWNER ENTRY and a USER ENTRY "
                + "of 32 bytes, a NUMBER of 0 .. 64 bytes.");
        for (int revision = 2; revision <= 4; revision++) {
            for (int many = 0; many <= 64; many++) {
                Locked both = new Locked();
                both.handler(revision, 5, -4, true);
                both.take(2, Sheets.some(many, 2));
                both.enter(1);
                String what = "a number of " + many + ", revision " + revision;
                s.same(what + ", and the entry", Sheets.entry(both.x, 1), both.model.user);
                s.same(what + ", and open()", both.open(new byte[0]), 1);
                s.same(what + ", and the key", Sheets.key(both.x), both.model.key);
            }
        }
    }

    private static Sentence ofTheKey() {
        return Sentence.ofTerms("THE KEY of a password: DIGEST of (PADDED | OWNER ENTRY | the PERMISSIONS' four bytes "
                + "| NUMBER | four 255, if the REVISION is 4 and DATA are left out); from REVISION 3 on 50 times "
                + "DIGEST of its first n bytes; n bytes of that.");
    }

    private static byte[] keyBy(int revision, boolean leftOut, byte[] number) {
        Locked both = new Locked();
        both.handler(revision, 5, -4, leftOut);
        both.take(2, number);
        both.enter(1);
        both.open(new byte[0]);
        Check.same("the key by the model", Sheets.key(both.x), both.model.key);
        return Sheets.key(both.x);
    }

    private static void keyWithDataLeftOut() {
        Sentence s = ofTheKey();
        byte[] number = Sheets.some(8, 8);
        byte[] longer = Model.joined(number, filled(4, 255));
        for (int revision = 2; revision <= 3; revision++) {
            s.same("DATA left out change nothing, revision " + revision,
                    keyBy(revision, true, number), keyBy(revision, false, number));
        }
        // The user entry takes the number too, but the key does not know where the number ends.
        s.same("DATA left out are four 255 behind the number, revision 4",
                keyBy(4, true, number), keyBy(4, false, longer));
        s.same("without a number too", keyBy(4, true, new byte[0]), keyBy(4, false, filled(4, 255)));
        s.same("behind the longest number", keyBy(4, true, Sheets.some(64, 1)).length, 5);
    }

    private static void keyByTheRevision() {
        Sentence s = ofTheKey();
        byte[] first = Model.digestOf(Model.PAD, new byte[32], Sheets.hex("fcffffff"));
        s.same("revision 2: of one DIGEST", keyBy(2, false, new byte[0]), Arrays.copyOf(first, 5));
        byte[] later = first;
        for (int i = 0; i < 50; i++) {
            later = Model.digestOf(Arrays.copyOf(later, 5));
        }
        s.same("revision 3: of 50 more", keyBy(3, false, new byte[0]), Arrays.copyOf(later, 5));
        s.same("revision 4: of 50 more", keyBy(4, false, new byte[0]), Arrays.copyOf(later, 5));
    }

    private static void ownersKeyTakesAllSixteen() {
        Sentence s = Sentence.ofTerms("THE OWNER'S KEY of a password: DIGEST of PADDED; from REVISION 3 on 50 times "
                + "DIGEST of that (all sixteen bytes); n bytes of it.");
        byte[] key = Model.digestOf(Model.PAD);
        SheetKeys x = new SheetKeys();
        x.handler(2, 5, -4, false);
        x.enter(0);
        s.same("revision 2", Sheets.entry(x, 0), Model.streamOf(Model.PAD, Arrays.copyOf(key, 5)));
        for (int i = 0; i < 50; i++) {
            key = Model.digestOf(key);
        }
        for (int length = 5; length <= 16; length++) {
            byte[] due = Model.PAD;
            for (int i = 0; i <= 19; i++) {
                due = Model.streamOf(due, Model.changed(Arrays.copyOf(key, length), i));
            }
            for (int revision = 3; revision <= 4; revision++) {
                SheetKeys y = new SheetKeys();
                y.handler(revision, length, -4, false);
                y.enter(0);
                s.same("revision " + revision + ", length " + length, Sheets.entry(y, 0), due);
            }
        }
    }

    private static void userEntryByTheRevision() {
        Sentence s = Sentence.ofTerms("From 3 on: STREAM of DIGEST (THE PAD | NUMBER) by the KEY, 19 times more with "
                + "each byte ^ i as above; 16 bytes, and sixteen 0.");
        for (int revision = 2; revision <= 4; revision++) {
            Locked both = Locked.by(revision, 5, Locked.OWNERS, Locked.USERS);
            byte[] end = Arrays.copyOfRange(Sheets.entry(both.x, 1), 16, 32);
            s.same("revision " + revision + " ends in sixteen 0",
                    Arrays.equals(end, new byte[16]) ? 1 : 0, revision == 2 ? 0 : 1);
            s.same("revision " + revision, Sheets.entry(both.x, 1), both.model.user);
        }
        Locked both = Locked.by(2, 5, Locked.OWNERS, Locked.USERS);
        both.handler(3, 5, -4, false);
        both.enter(1);
        s.same("sixteen 0 over an entry of revision 2", Sheets.entry(both.x, 1), both.model.user);
    }

    private static void usersByTheRevision() {
        Sentence s = Sentence.ofTerms("A password is the USER'S if the USER ENTRY by its KEY is the one told (from "
                + "REVISION 3 on: in its first 16 bytes).");
        for (int revision = 2; revision <= 4; revision++) {
            for (int wrong = 0; wrong < 32; wrong++) {
                Locked both = Locked.by(revision, 5, Locked.OWNERS, Locked.USERS);
                byte[] entry = both.model.user.clone();
                entry[wrong] ^= 64;
                both.take(1, entry);
                int due = revision > 2 && wrong >= 16 ? 1 : 0;
                String what = "revision " + revision + ", byte " + wrong + " being another, ";
                s.same(what + "the user's", both.open(Locked.USERS), due);
                s.same(what + "the owner's", both.open(Locked.OWNERS), 2 * due);
            }
        }
    }

    private static void ownersAsAPasswordOf32() {
        Sentence s = Sentence.ofTerms("It is the OWNER'S if what comes of the OWNER ENTRY when its making is undone "
                + "by THE OWNER'S KEY of it is, as a password of 32 bytes, the USER'S.");
        for (int revision = 2; revision <= 4; revision++) {
            for (int many : LENGTHS_AT_32) {
                Locked both = Locked.by(revision, 5, Locked.OWNERS, Sheets.some(many, 6));
                String what = "revision " + revision + ", a user's of " + many + " bytes";
                s.same(what, both.open(Locked.OWNERS), 2);
                s.same(what + ", its key", Sheets.key(both.x), both.model.keyOf(Sheets.some(many, 6)));
            }
            Locked both = Locked.by(revision, 5, Locked.OWNERS, Locked.USERS);
            both.take(3, Sheets.text("told later"));
            both.take(4, Sheets.text("this too"));
            s.same("not by a password told later", both.open(Sheets.text("told later")), 0);
            s.same("by the one of the entry", both.open(Locked.OWNERS), 2);
        }
    }

    private static void objectsKeyHasSixteenAtMost() {
        Sentence s = Sentence.ofTerms("AN OBJECT'S KEY (number, generation, method): of DIGEST of (KEY | the three low "
                + "bytes of the number | the two low ones of the generation | (method 2) 73 41 6C 54 hexadecimal) the "
                + "first n + 5 bytes, 16 at most.");
        for (int length = 5; length <= 16; length++) {
            Locked both = Locked.opened(4, length);
            byte[] whole = Model.digestOf(both.model.key, Sheets.hex("0700000900"));
            byte[] key = Arrays.copyOf(whole, length + 5 < 16 ? length + 5 : 16);
            both.load(Sheets.some(40, 2));
            both.x.undo(7, 9, 1);
            s.same("length " + length, Sheets.result(both.x), Model.streamOf(both.model.row, key));
        }
    }

    private static void objectsNumberHasThreeBytes() {
        Sentence s = Sentence.ofTerms("AN OBJECT'S KEY (number, generation, method): of DIGEST of (KEY | the three low "
                + "bytes of the number | the two low ones of the generation | (method 2) 73 41 6C 54 hexadecimal) the "
                + "first n + 5 bytes, 16 at most.");
        int[][] objects = {{0, 0}, {0x7fffff, 0xffff}, {0x7f00ff, 0xff00}, {0x00ff00, 0x00ff}, {0x010203, 0x8081}};
        String[] five = {"0000000000", "ffff7fffff", "ff007f00ff", "00ff00ff00", "0302018180"};
        for (int i = 0; i < objects.length; i++) {
            Locked both = Locked.opened(4, 11);
            byte[] key = Model.digestOf(both.model.key, Sheets.hex(five[i]));
            both.load(Sheets.some(40, 2));
            both.x.seal(objects[i][0], objects[i][1], 1, 0, 0);
            s.same(Arrays.toString(objects[i]), Sheets.result(both.x), Model.streamOf(both.model.row, key));
        }
    }

    private static void shortKeysForBlocks() {
        Sentence s = Sentence.ofTerms("2: BLOCKS, the object's key having sixteen bytes (0 behind it, if it is "
                + "shorter).");
        for (int length = 5; length <= 16; length++) {
            // A longer key goes before, so that what it left behind would be seen.
            Locked both = Locked.opened(3, 16);
            both.x.seal(1, 2, 2, 3, 4);
            both.handler(3, length, -4, false);
            both.enter(1);
            s.same("open()", both.open(Locked.USERS), 1);
            both.load(Sheets.some(20, 2));
            both.model.seal(1, 2, 2, 3, 4);
            s.same("seal, length " + length, both.x.seal(1, 2, 2, 3, 4), 48);
            s.same("sealed, length " + length, Sheets.result(both.x), both.model.result);
            both.x.keep();
            s.same("undo, length " + length, both.x.undo(1, 2, 2), 20);
            s.same("undone, length " + length, Sheets.result(both.x), Sheets.some(20, 2));
        }
    }

    private static void undoingLeavesOut() {
        Sentence s = Sentence.ofTerms("UNDOING: the first sixteen bytes are what goes before; each block behind, "
                + "undone, ^ the block before it; of the last one, byte 15 is v, 1 .. 16, and so are the last v bytes, "
                + "which are left out.");
        for (int v = 0; v <= 17; v++) {
            for (int wrong = 1; wrong <= 17; wrong++) {
                byte[] plain = Sheets.some(32, 8);
                Arrays.fill(plain, 16, 32, (byte) v);
                if (wrong <= 16) {
                    plain[32 - wrong] ^= 32;
                }
                Locked both = Locked.opened(4, 16);
                both.loadBlocks(plain, 5, 6);
                boolean right = v >= 1 && v <= 16 && wrong > v;
                String what = "sixteen " + v + ", but for byte " + (16 - wrong);
                s.same(what, both.x.undo(5, 6, 2), right ? 32 - v : SheetKeys.PADDING);
                s.same(what + ", the result", Sheets.result(both.x), Arrays.copyOf(plain, right ? 32 - v : 0));
            }
        }
        Locked both = Locked.opened(4, 16);
        both.loadBlocks(Model.joined(Sheets.some(31, 8), Sheets.hex("01")), 5, 6);
        both.x.put(0, both.model.row[0] & 255 ^ 128);
        s.same("another first byte before the blocks", both.x.undo(5, 6, 2), 31);
        s.same("changes the first byte", both.x.at(0), Sheets.some(1, 8)[0] & 255 ^ 128);
        s.same("and no other", both.x.at(1), Sheets.some(2, 8)[1] & 255);
    }

    private static void sealingFillsUp() {
        Sentence s = Sentence.ofTerms("SEALING is the reverse: sixteen bytes told, then blocks, v bytes v, 1 at "
                + "least, filling up the last one.");
        for (int many = 0; many <= 49; many++) {
            Locked both = Locked.opened(4, 16);
            both.load(Sheets.some(many, 5));
            both.model.seal(3, 2, 2, 4, 5);
            s.same(many + " bytes", both.x.seal(3, 2, 2, 4, 5), 16 + many / 16 * 16 + 16);
            s.same(many + " bytes sealed", Sheets.result(both.x), both.model.result);
            both.x.keep();
            s.same(many + " bytes undone", both.x.undo(3, 2, 2), many);
            s.same(many + " bytes as they were", Sheets.result(both.x), Sheets.some(many, 5));
        }
    }

    private static void theFirstExceptionWins() {
        Sentence s = Sentence.ofTerms("A call that throws changes nothing; where it lists more than one exception, "
                + "the first one wins.");
        s.refused("put(20, 256) of 20", IndexOutOfBoundsException.class, () -> Locked.full(20), x -> x.put(20, 256));
        s.refused("put(-1, -1) of 20", IndexOutOfBoundsException.class, () -> Locked.full(20), x -> x.put(-1, -1));
        s.refused("take(5) of 65", IllegalArgumentException.class, () -> Locked.full(65), x -> x.take(5));
        s.refused("take(-1) of 31", IllegalArgumentException.class, () -> Locked.full(31), x -> x.take(-1));
        for (int method = 0; method <= 2; method++) {
            int m = method;
            s.refused("undo(-1, 0, " + m + ") without a key", IllegalArgumentException.class,
                    () -> Locked.keyless(32), x -> x.undo(-1, 0, m));
            s.refused("seal(0, 65536, " + m + ", 1, 2) without a key", IllegalArgumentException.class,
                    () -> Locked.keyless(32), x -> x.seal(0, 65536, m, 1, 2));
        }
        s.refused("undo(0, 0, 3) without a key", IllegalArgumentException.class,
                () -> Locked.keyless(32), x -> x.undo(0, 0, 3));
        s.refused("undo(0, 0, 2) of 31 bytes without a key", IllegalStateException.class,
                () -> Locked.keyless(31), x -> x.undo(0, 0, 2));
        s.refused("undo(0, 0, 3) of 31 bytes", IllegalArgumentException.class,
                () -> Locked.full(31), x -> x.undo(0, 0, 3));
    }
}
