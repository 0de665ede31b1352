/**
 * The standard security handler of portable documents: keys by passwords, entries that tell whether a password is
 * one, and bytes of objects made unreadable and undone, by a stream of bytes or by blocks.
 */
public final class SheetKeys {
    public static final int NONE = -1;
    public static final int LENGTH = -2;
    public static final int PADDING = -3;

    private static final int MOST_BYTES = 16384;
    private static final int ENTRY_BYTES = 32;
    private static final int MOST_TOLD_BYTES = 64;
    private static final int DIGEST_BYTES = 16;
    private static final int BLOCK_BYTES = 16;
    private static final int HIGHEST_NUMBER = 8388607;
    private static final int HIGHEST_GENERATION = 65535;
    private static final int BY_STREAM = 1;
    private static final int BY_BLOCKS = 2;

    private final Row row;
    private final Row result;
    private final Handler standard;

    public SheetKeys() {
        row = new Row(MOST_BYTES);
        result = new Row(MOST_BYTES);
        standard = new Handler();
    }

    public int feed(int a, int b, int c, int d, int e) {
        if (row.many > MOST_BYTES - 20) {
            return NONE;
        }
        row.addHighestFirst(a);
        row.addHighestFirst(b);
        row.addHighestFirst(c);
        row.addHighestFirst(d);
        row.addHighestFirst(e);
        return row.many;
    }

    public int put(int i, int b) throws IndexOutOfBoundsException, IllegalArgumentException {
        if (i < 0 || i >= row.many) {
            throw new IndexOutOfBoundsException("the row has no such byte");
        }
        if (b < 0 || b > 255) {
            throw new IllegalArgumentException("a byte is 0 .. 255");
        }
        int was = row.bytes[i];
        row.bytes[i] = b;
        return was;
    }

    public int cut(int many) throws IllegalArgumentException {
        if (many < 0) {
            throw new IllegalArgumentException("fewer than no bytes cannot be left");
        }
        int had = row.many;
        row.shorten(many);
        return had - row.many;
    }

    public void handler(int revision, int length, int permissions, boolean leftOut) throws IllegalArgumentException {
        if (revision < 2 || revision > 4) {
            throw new IllegalArgumentException("there is no such revision");
        }
        if (length < 5 || length > (revision == 2 ? 5 : 16)) {
            throw new IllegalArgumentException("the revision has no such length");
        }
        standard.revision = revision;
        standard.length = length;
        standard.permissions = permissions;
        standard.leftOut = leftOut;
        standard.known.clear();
    }

    public int take(int what) throws IllegalArgumentException, IllegalStateException {
        Row told = standard.toldRow(what);
        if (told == null) {
            throw new IllegalArgumentException("only 0 .. 4 can be told");
        }
        boolean isEntry = what <= 1;
        if (isEntry ? row.many != ENTRY_BYTES : row.many > MOST_TOLD_BYTES) {
            throw new IllegalStateException("the row has not so many bytes");
        }
        told.become(row);
        if (what <= 2) {
            standard.known.clear();
        }
        return row.many;
    }

    public void enter(int what) throws IllegalArgumentException {
        if (what != 0 && what != 1) {
            throw new IllegalArgumentException("only the entries 0 and 1 can be made");
        }
        if (what == 0) {
            standard.makeOwnerEntry();
        } else {
            standard.makeUserEntry();
        }
        standard.known.clear();
    }

    public int open() {
        return standard.tryPassword(row);
    }

    public int key(int i) {
        return standard.known.byteAt(i);
    }

    public void digest() {
        standard.hasher.hash(row, result);
    }

    public int undo(int number, int generation, int method) throws IllegalArgumentException, IllegalStateException {
        if (!isObject(number, generation, method)) {
            throw new IllegalArgumentException("there is no such number, generation or method");
        }
        if (standard.known.many == 0) {
            throw new IllegalStateException("the key is unknown");
        }
        if (method == BY_BLOCKS) {
            return undoBlocks(number, generation);
        }
        return streamOrCopy(number, generation, method);
    }

    public int seal(int number, int generation, int method, int one, int other)
            throws IllegalArgumentException, IllegalStateException {
        if (!isObject(number, generation, method)) {
            throw new IllegalArgumentException("there is no such number, generation or method");
        }
        if (standard.known.many == 0) {
            throw new IllegalStateException("the key is unknown");
        }
        if (method != BY_BLOCKS) {
            return streamOrCopy(number, generation, method);
        }
        if (BLOCK_BYTES + row.many + fillingBytes() > MOST_BYTES) {
            throw new IllegalStateException("the result would have too many bytes");
        }
        return sealBlocks(number, generation, one, other);
    }

    public int count(int what) {
        if (what == 0) {
            return result.many;
        }
        return what == 1 ? row.many : NONE;
    }

    public int at(int i) {
        return result.byteAt(i);
    }

    public int entry(int what, int i) {
        if (what == 0) {
            return standard.ownerEntry.byteAt(i);
        }
        return what == 1 ? standard.userEntry.byteAt(i) : NONE;
    }

    public int keep() {
        row.become(result);
        return row.many;
    }

    private static boolean isObject(int number, int generation, int method) {
        return number >= 0 && number <= HIGHEST_NUMBER
                && generation >= 0 && generation <= HIGHEST_GENERATION
                && method >= 0 && method <= BY_BLOCKS;
    }

    private int streamOrCopy(int number, int generation, int method) {
        result.become(row);
        if (method == BY_STREAM) {
            standard.streamer.stream(result, standard.objectKey(number, generation, method), 0);
        }
        return result.many;
    }

    private int undoBlocks(int number, int generation) {
        int many = row.many;
        if (many % BLOCK_BYTES != 0 || many < 2 * BLOCK_BYTES) {
            return LENGTH;
        }
        Blocks blocks = standard.blocks;
        blocks.expand(standard.objectKey(number, generation, BY_BLOCKS));
        // The last block goes first: the result must stay as it is if the padding is wrong.
        unchain(blocks, many - BLOCK_BYTES);
        int filling = blocks.filling();
        if (filling == 0) {
            return PADDING;
        }
        for (int i = BLOCK_BYTES; i < many; i += BLOCK_BYTES) {
            unchain(blocks, i);
            blocks.storeTo(result, i - BLOCK_BYTES);
        }
        result.many = many - BLOCK_BYTES - filling;
        return result.many;
    }

    private void unchain(Blocks blocks, int from) {
        blocks.loadFrom(row, from);
        blocks.unmakeBlock();
        blocks.addFrom(row, from - BLOCK_BYTES);
    }

    private int fillingBytes() {
        return BLOCK_BYTES - row.many % BLOCK_BYTES;
    }

    private int sealBlocks(int number, int generation, int one, int other) {
        Blocks blocks = standard.blocks;
        blocks.expand(standard.objectKey(number, generation, BY_BLOCKS));
        result.clear();
        result.addHighestFirst(one);
        result.addHighestFirst(other);
        result.addHighestFirst(~one);
        result.addHighestFirst(~other);
        result.addRow(row);
        int filling = fillingBytes();
        result.addTimes(filling, filling);
        for (int i = BLOCK_BYTES; i < result.many; i += BLOCK_BYTES) {
            blocks.loadFrom(result, i);
            blocks.addFrom(result, i - BLOCK_BYTES);
            blocks.makeBlock();
            blocks.storeTo(result, i);
        }
        return result.many;
    }

    /** Bytes, each 0 .. 255, in a room that is made once; what does not fit into the room is left away. */
    private static final class Row {
        final int[] bytes;
        int many;

        Row(int room) {
            bytes = new int[room < 0 ? 0 : room];
        }

        int byteAt(int i) {
            return i < 0 || i >= many ? NONE : bytes[i];
        }

        void clear() {
            many = 0;
        }

        void shorten(int left) {
            if (left >= 0 && left < many) {
                many = left;
            }
        }

        void add(int b) {
            if (many < bytes.length) {
                bytes[many] = b & 255;
                many++;
            }
        }

        void addTimes(int b, int times) {
            for (int i = 0; i < times; i++) {
                add(b);
            }
        }

        void addHighestFirst(int value) {
            add(value >>> 24);
            add(value >>> 16);
            add(value >>> 8);
            add(value);
        }

        void addLowestFirst(int value, int howMany) {
            for (int i = 0; i < howMany; i++) {
                add(value >>> (8 * i));
            }
        }

        void addRow(Row other) {
            int more = Math.min(other.many, bytes.length - many);
            System.arraycopy(other.bytes, 0, bytes, many, more);
            many += more;
        }

        void become(Row other) {
            many = 0;
            addRow(other);
        }

        boolean beginsAs(Row other, int howMany) {
            if (many < howMany || other.many < howMany) {
                return false;
            }
            for (int i = 0; i < howMany; i++) {
                if (bytes[i] != other.bytes[i]) {
                    return false;
                }
            }
            return true;
        }
    }

    /** DIGEST. */
    private static final class Hasher {
        private static final int[] SINES = {
            0xd76aa478, 0xe8c7b756, 0x242070db, 0xc1bdceee, 0xf57c0faf, 0x4787c62a, 0xa8304613, 0xfd469501,
            0x698098d8, 0x8b44f7af, 0xffff5bb1, 0x895cd7be, 0x6b901122, 0xfd987193, 0xa679438e, 0x49b40821,
            0xf61e2562, 0xc040b340, 0x265e5a51, 0xe9b6c7aa, 0xd62f105d, 0x02441453, 0xd8a1e681, 0xe7d3fbc8,
            0x21e1cde6, 0xc33707d6, 0xf4d50d87, 0x455a14ed, 0xa9e3e905, 0xfcefa3f8, 0x676f02d9, 0x8d2a4c8a,
            0xfffa3942, 0x8771f681, 0x6d9d6122, 0xfde5380c, 0xa4beea44, 0x4bdecfa9, 0xf6bb4b60, 0xbebfbc70,
            0x289b7ec6, 0xeaa127fa, 0xd4ef3085, 0x04881d05, 0xd9d4d039, 0xe6db99e5, 0x1fa27cf8, 0xc4ac5665,
            0xf4292244, 0x432aff97, 0xab9423a7, 0xfc93a039, 0x655b59c3, 0x8f0ccc92, 0xffeff47d, 0x85845dd1,
            0x6fa87e4f, 0xfe2ce6e0, 0xa3014314, 0x4e0811a1, 0xf7537e82, 0xbd3af235, 0x2ad7d2bb, 0xeb86d391
        };
        private static final int[] TURNS = {7, 12, 17, 22, 5, 9, 14, 20, 4, 11, 16, 23, 6, 10, 15, 21};
        private static final int CHUNK_BYTES = 64;

        private final int[] words = new int[16];
        private int sumA;
        private int sumB;
        private int sumC;
        private int sumD;

        /** The two rows may be the same one: the digest is written when all bytes have been read. */
        void hash(Row from, Row to) {
            sumA = 0x67452301;
            sumB = 0xefcdab89;
            sumC = 0x98badcfe;
            sumD = 0x10325476;
            int chunks = (from.many + 8) / CHUNK_BYTES + 1;
            for (int i = 0; i < chunks; i++) {
                loadWords(from, i * CHUNK_BYTES);
                if (i == chunks - 1) {
                    // A row's bits always fit into the lower of the two words that tell how many they are.
                    words[14] = 8 * from.many;
                }
                mixWords();
            }
            to.clear();
            to.addLowestFirst(sumA, 4);
            to.addLowestFirst(sumB, 4);
            to.addLowestFirst(sumC, 4);
            to.addLowestFirst(sumD, 4);
        }

        private void loadWords(Row from, int start) {
            for (int i = 0; i < 16; i++) {
                int k = start + 4 * i;
                words[i] = endedByte(from, k) | endedByte(from, k + 1) << 8
                        | endedByte(from, k + 2) << 16 | endedByte(from, k + 3) << 24;
            }
        }

        private static int endedByte(Row from, int i) {
            if (i >= 0 && i < from.many) {
                return from.bytes[i];
            }
            return i == from.many ? 128 : 0;
        }

        private void mixWords() {
            int a = sumA;
            int b = sumB;
            int c = sumC;
            int d = sumD;
            for (int i = 0; i < 64; i++) {
                int f;
                int g;
                if (i < 16) {
                    f = (b & c) | (~b & d);
                    g = i;
                } else if (i < 32) {
                    f = (d & b) | (~d & c);
                    g = 5 * i + 1;
                } else if (i < 48) {
                    f = b ^ c ^ d;
                    g = 3 * i + 5;
                } else {
                    f = c ^ (b | ~d);
                    g = 7 * i;
                }
                f += a + SINES[i] + words[g & 15];
                int turn = TURNS[(i >> 4) * 4 + (i & 3)];
                a = d;
                d = c;
                c = b;
                b += (f << turn) | (f >>> (32 - turn));
            }
            sumA += a;
            sumB += b;
            sumC += c;
            sumD += d;
        }
    }

    /** STREAM. */
    private static final class Streamer {
        private final int[] table = new int[256];

        /** Each byte of the key is taken ^ change. */
        void stream(Row over, Row key, int change) {
            if (key.many == 0) {
                return;
            }
            mixTable(key, change);
            int i = 0;
            int j = 0;
            for (int k = 0; k < over.many; k++) {
                i = (i + 1) & 255;
                int low = table[i];
                j = (j + low) & 255;
                int high = table[j];
                table[i] = high;
                table[j] = low;
                over.bytes[k] ^= table[(low + high) & 255];
            }
        }

        private void mixTable(Row key, int change) {
            for (int i = 0; i < 256; i++) {
                table[i] = i;
            }
            int j = 0;
            int k = 0;
            for (int i = 0; i < 256; i++) {
                int low = table[i];
                j = (j + low + (key.bytes[k] ^ change)) & 255;
                table[i] = table[j];
                table[j] = low;
                k++;
                if (k >= key.many) {
                    k = 0;
                }
            }
        }
    }

    /** BLOCKS: one block at a time, which is loaded, made or undone, and stored. */
    private static final class Blocks {
        private static final int[] SWAPS = {
            99, 124, 119, 123, 242, 107, 111, 197, 48, 1, 103, 43, 254, 215, 171, 118,
            202, 130, 201, 125, 250, 89, 71, 240, 173, 212, 162, 175, 156, 164, 114, 192,
            183, 253, 147, 38, 54, 63, 247, 204, 52, 165, 229, 241, 113, 216, 49, 21,
            4, 199, 35, 195, 24, 150, 5, 154, 7, 18, 128, 226, 235, 39, 178, 117,
            9, 131, 44, 26, 27, 110, 90, 160, 82, 59, 214, 179, 41, 227, 47, 132,
            83, 209, 0, 237, 32, 252, 177, 91, 106, 203, 190, 57, 74, 76, 88, 207,
            208, 239, 170, 251, 67, 77, 51, 133, 69, 249, 2, 127, 80, 60, 159, 168,
            81, 163, 64, 143, 146, 157, 56, 245, 188, 182, 218, 33, 16, 255, 243, 210,
            205, 12, 19, 236, 95, 151, 68, 23, 196, 167, 126, 61, 100, 93, 25, 115,
            96, 129, 79, 220, 34, 42, 144, 136, 70, 238, 184, 20, 222, 94, 11, 219,
            224, 50, 58, 10, 73, 6, 36, 92, 194, 211, 172, 98, 145, 149, 228, 121,
            231, 200, 55, 109, 141, 213, 78, 169, 108, 86, 244, 234, 101, 122, 174, 8,
            186, 120, 37, 46, 28, 166, 180, 198, 232, 221, 116, 31, 75, 189, 139, 138,
            112, 62, 181, 102, 72, 3, 246, 14, 97, 53, 87, 185, 134, 193, 29, 158,
            225, 248, 152, 17, 105, 217, 142, 148, 155, 30, 135, 233, 206, 85, 40, 223,
            140, 161, 137, 13, 191, 230, 66, 104, 65, 153, 45, 15, 176, 84, 187, 22
        };
        private static final int ROUNDS = 10;

        private final int[] swapsBack = new int[256];
        private final int[] columns = new int[BLOCK_BYTES * (ROUNDS + 1)];
        private final int[] block = new int[BLOCK_BYTES];
        private final int[] before = new int[BLOCK_BYTES];

        Blocks() {
            for (int i = 0; i < 256; i++) {
                swapsBack[SWAPS[i]] = i;
            }
        }

        /** A key shorter than a block counts with 0 behind it. */
        void expand(Row key) {
            for (int i = 0; i < BLOCK_BYTES; i++) {
                columns[i] = i < key.many ? key.bytes[i] : 0;
            }
            int extra = 1;
            for (int i = BLOCK_BYTES; i < columns.length; i += 4) {
                if (i % BLOCK_BYTES == 0) {
                    columns[i] = columns[i - 16] ^ SWAPS[columns[i - 3] & 255] ^ extra;
                    columns[i + 1] = columns[i - 15] ^ SWAPS[columns[i - 2] & 255];
                    columns[i + 2] = columns[i - 14] ^ SWAPS[columns[i - 1] & 255];
                    columns[i + 3] = columns[i - 13] ^ SWAPS[columns[i - 4] & 255];
                    extra = twice(extra);
                } else {
                    for (int k = i; k < i + 4; k++) {
                        columns[k] = columns[k - 16] ^ columns[k - 4];
                    }
                }
            }
        }

        void loadFrom(Row from, int start) {
            if (fits(from, start)) {
                System.arraycopy(from.bytes, start, block, 0, BLOCK_BYTES);
            }
        }

        void addFrom(Row from, int start) {
            if (fits(from, start)) {
                for (int i = 0; i < BLOCK_BYTES; i++) {
                    block[i] ^= from.bytes[start + i];
                }
            }
        }

        void storeTo(Row to, int start) {
            if (fits(to, start)) {
                System.arraycopy(block, 0, to.bytes, start, BLOCK_BYTES);
            }
        }

        private static boolean fits(Row row, int start) {
            return start >= 0 && start <= row.bytes.length - BLOCK_BYTES;
        }

        /** How many bytes at the block's end only fill it up; 0 if it does not end so. */
        int filling() {
            int v = block[BLOCK_BYTES - 1];
            if (v < 1 || v > BLOCK_BYTES) {
                return 0;
            }
            for (int i = BLOCK_BYTES - v; i < BLOCK_BYTES; i++) {
                if (block[i] != v) {
                    return 0;
                }
            }
            return v;
        }

        void makeBlock() {
            addColumns(0);
            for (int round = 1; round <= ROUNDS; round++) {
                swapAndTurn();
                if (round < ROUNDS) {
                    mixColumns();
                }
                addColumns(round);
            }
        }

        void unmakeBlock() {
            for (int round = ROUNDS; round >= 1; round--) {
                addColumns(round);
                if (round < ROUNDS) {
                    unmixColumns();
                }
                swapAndTurnBack();
            }
            addColumns(0);
        }

        private void addColumns(int round) {
            int start = BLOCK_BYTES * round;
            for (int i = 0; i < BLOCK_BYTES; i++) {
                block[i] ^= columns[start + i];
            }
        }

        /** With i = r + 4 k the byte r + 4 (k + r) is 5 i modulo 16. */
        private void swapAndTurn() {
            System.arraycopy(block, 0, before, 0, BLOCK_BYTES);
            for (int i = 0; i < BLOCK_BYTES; i++) {
                block[i] = SWAPS[before[(5 * i) & 15] & 255];
            }
        }

        private void swapAndTurnBack() {
            System.arraycopy(block, 0, before, 0, BLOCK_BYTES);
            for (int i = 0; i < BLOCK_BYTES; i++) {
                block[(5 * i) & 15] = swapsBack[before[i] & 255];
            }
        }

        /** 2 p ^ 3 q ^ s ^ t is p ^ (p ^ q ^ s ^ t) ^ 2 (p ^ q), and so on: one product a byte is enough. */
        private void mixColumns() {
            for (int i = 0; i < BLOCK_BYTES; i += 4) {
                int p = block[i];
                int q = block[i + 1];
                int s = block[i + 2];
                int t = block[i + 3];
                int all = p ^ q ^ s ^ t;
                block[i] = p ^ all ^ twice(p ^ q);
                block[i + 1] = q ^ all ^ twice(q ^ s);
                block[i + 2] = s ^ all ^ twice(s ^ t);
                block[i + 3] = t ^ all ^ twice(t ^ p);
            }
        }

        /** Mixing four times changes nothing, and mixing twice is 5 p ^ 4 s, ..: so this and one mixing undo one. */
        private void unmixColumns() {
            for (int i = 0; i < BLOCK_BYTES; i += 4) {
                int even = twice(twice(block[i] ^ block[i + 2]));
                int odd = twice(twice(block[i + 1] ^ block[i + 3]));
                block[i] ^= even;
                block[i + 1] ^= odd;
                block[i + 2] ^= even;
                block[i + 3] ^= odd;
            }
            mixColumns();
        }

        private static int twice(int b) {
            return (b & 128) == 0 ? b << 1 : (b << 1) ^ 0x11b;
        }
    }

    /** THE HANDLER, what it has been told, and the KEY, which has no bytes as long as it is unknown. */
    private static final class Handler {
        private static final int[] PAD = {
            0x28, 0xbf, 0x4e, 0x5e, 0x4e, 0x75, 0x8a, 0x41, 0x64, 0x00, 0x4e, 0x56, 0xff, 0xfa, 0x01, 0x08,
            0x2e, 0x2e, 0x00, 0xb6, 0xd0, 0x68, 0x3e, 0x80, 0x2f, 0x0c, 0xa9, 0xfe, 0x64, 0x53, 0x69, 0x7a
        };
        private static final int PASSWORD_BYTES = 32;
        private static final int REPEATS = 50;
        private static final int ENTRY_STREAMS = 20;

        int revision = 3;
        int length = 16;
        int permissions = -4;
        boolean leftOut = false;

        final Row ownerEntry = new Row(ENTRY_BYTES);
        final Row userEntry = new Row(ENTRY_BYTES);
        final Row documentNumber = new Row(MOST_TOLD_BYTES);
        final Row ownerPassword = new Row(MOST_TOLD_BYTES);
        final Row userPassword = new Row(MOST_TOLD_BYTES);
        final Row known = new Row(DIGEST_BYTES);

        final Hasher hasher = new Hasher();
        final Streamer streamer = new Streamer();
        final Blocks blocks = new Blocks();

        // Rows for work in between, made once.
        private final Row gathered = new Row(2 * PASSWORD_BYTES + 8 + MOST_TOLD_BYTES);
        private final Row tried = new Row(DIGEST_BYTES);
        private final Row madeEntry = new Row(ENTRY_BYTES);
        private final Row undoneEntry = new Row(ENTRY_BYTES);

        Handler() {
            ownerEntry.many = ENTRY_BYTES;
            userEntry.many = ENTRY_BYTES;
        }

        Row toldRow(int what) {
            switch (what) {
                case 0:
                    return ownerEntry;
                case 1:
                    return userEntry;
                case 2:
                    return documentNumber;
                case 3:
                    return ownerPassword;
                case 4:
                    return userPassword;
                default:
                    return null;
            }
        }

        void makeOwnerEntry() {
            deriveOwnerKey(ownerPassword);
            ownerEntry.clear();
            addPadded(ownerEntry, userPassword);
            streamEntry(ownerEntry);
        }

        void makeUserEntry() {
            deriveKey(userPassword);
            makeEntryByTried();
            userEntry.become(madeEntry);
        }

        /** 1: the user's, 2: the owner's, 0: neither. */
        int tryPassword(Row password) {
            deriveKey(password);
            if (isTriedTheUsers()) {
                known.become(tried);
                return 1;
            }
            deriveOwnerKey(password);
            undoneEntry.become(ownerEntry);
            streamEntry(undoneEntry);
            deriveKey(undoneEntry);
            if (isTriedTheUsers()) {
                known.become(tried);
                return 2;
            }
            return 0;
        }

        /** The row answered is one for work in between: it holds until the next key is derived. */
        Row objectKey(int number, int generation, int method) {
            gathered.become(known);
            gathered.addLowestFirst(number, 3);
            gathered.addLowestFirst(generation, 2);
            if (method == BY_BLOCKS) {
                gathered.addHighestFirst(0x73416c54);
            }
            hasher.hash(gathered, tried);
            tried.shorten(length + 5);
            return tried;
        }

        private static void addPadded(Row to, Row password) {
            int own = Math.min(password.many, PASSWORD_BYTES);
            for (int i = 0; i < own; i++) {
                to.add(password.bytes[i]);
            }
            for (int i = 0; i < PASSWORD_BYTES - own; i++) {
                to.add(PAD[i]);
            }
        }

        private static void addPad(Row to) {
            for (int i = 0; i < PASSWORD_BYTES; i++) {
                to.add(PAD[i]);
            }
        }

        private void deriveKey(Row password) {
            gathered.clear();
            addPadded(gathered, password);
            gathered.addRow(ownerEntry);
            gathered.addLowestFirst(permissions, 4);
            gathered.addRow(documentNumber);
            if (revision == 4 && leftOut) {
                gathered.addTimes(255, 4);
            }
            hasher.hash(gathered, tried);
            if (revision >= 3) {
                for (int i = 0; i < REPEATS; i++) {
                    tried.shorten(length);
                    hasher.hash(tried, tried);
                }
            }
            tried.shorten(length);
        }

        private void deriveOwnerKey(Row password) {
            gathered.clear();
            addPadded(gathered, password);
            hasher.hash(gathered, tried);
            if (revision >= 3) {
                for (int i = 0; i < REPEATS; i++) {
                    hasher.hash(tried, tried);
                }
            }
            tried.shorten(length);
        }

        /** Undoes an entry just as it makes one: streams only ^ bytes, so that their order does not matter. */
        private void streamEntry(Row entry) {
            int times = revision >= 3 ? ENTRY_STREAMS : 1;
            for (int change = 0; change < times; change++) {
                streamer.stream(entry, tried, change);
            }
        }

        private void makeEntryByTried() {
            if (revision >= 3) {
                gathered.clear();
                addPad(gathered);
                gathered.addRow(documentNumber);
                hasher.hash(gathered, madeEntry);
                streamEntry(madeEntry);
                madeEntry.addTimes(0, ENTRY_BYTES - DIGEST_BYTES);
            } else {
                madeEntry.clear();
                addPad(madeEntry);
                streamEntry(madeEntry);
            }
        }

        private boolean isTriedTheUsers() {
            makeEntryByTried();
            return madeEntry.beginsAs(userEntry, revision >= 3 ? DIGEST_BYTES : ENTRY_BYTES);
        }
    }
}
