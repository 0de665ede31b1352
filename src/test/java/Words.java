/** DIGEST, STREAM and BLOCKS step by step as the words under 'Terms' tell them, without the Java library's own. */
final class Words {
    private static final int[][] TURNS = {{7, 12, 17, 22}, {5, 9, 14, 20}, {4, 11, 16, 23}, {6, 10, 15, 21}};

    private Words() {
    }

    static byte[] digest(byte[] row) {
        byte[] whole = ended(row);
        int[] sums = {0x67452301, 0xEFCDAB89, 0x98BADCFE, 0x10325476};
        for (int start = 0; start < whole.length; start += 64) {
            int[] m = new int[16];
            for (int i = 0; i < 64; i++) {
                m[i / 4] |= (whole[start + i] & 255) << 8 * (i % 4);
            }
            int[] mixed = mixed(sums, m);
            for (int i = 0; i < 4; i++) {
                sums[i] += mixed[i];
            }
        }
        byte[] digest = new byte[16];
        for (int i = 0; i < 16; i++) {
            digest[i] = (byte) (sums[i / 4] >> 8 * (i % 4));
        }
        return digest;
    }

    private static byte[] ended(byte[] row) {
        int many = row.length + 1;
        while ((many + 8) % 64 != 0) {
            many++;
        }
        byte[] whole = new byte[many + 8];
        System.arraycopy(row, 0, whole, 0, row.length);
        whole[row.length] = (byte) 128;
        long bits = 8L * row.length;
        for (int i = 0; i < 8; i++) {
            whole[many + i] = (byte) (bits >> 8 * i);
        }
        return whole;
    }

    private static int[] mixed(int[] sums, int[] m) {
        int a = sums[0];
        int b = sums[1];
        int c = sums[2];
        int d = sums[3];
        for (int i = 0; i < 64; i++) {
            int[] fs = {(b & c) | (~b & d), (d & b) | (~d & c), b ^ c ^ d, c ^ (b | ~d)};
            int[] gs = {i, (5 * i + 1) % 16, (3 * i + 5) % 16, (7 * i) % 16};
            int k = (int) (long) (4294967296.0 * Math.abs(Math.sin(i + 1)));
            int f = fs[i / 16] + a + k + m[gs[i / 16]];
            a = d;
            d = c;
            c = b;
            b = b + Integer.rotateLeft(f, TURNS[i / 16][i % 4]);
        }
        return new int[] {a, b, c, d};
    }

    static byte[] stream(byte[] row, byte[] key) {
        int[] t = new int[256];
        for (int i = 0; i < 256; i++) {
            t[i] = i;
        }
        int j = 0;
        for (int i = 0; i < 256; i++) {
            j = (j + t[i] + (key[i % key.length] & 255)) % 256;
            change(t, i, j);
        }
        byte[] streamed = row.clone();
        int i = 0;
        j = 0;
        for (int k = 0; k < row.length; k++) {
            i = (i + 1) % 256;
            j = (j + t[i]) % 256;
            change(t, i, j);
            streamed[k] ^= (byte) t[(t[i] + t[j]) % 256];
        }
        return streamed;
    }

    private static void change(int[] t, int i, int j) {
        int was = t[i];
        t[i] = t[j];
        t[j] = was;
    }

    static int product(int p, int q) {
        int whole = 0;
        for (int i = 0; i < 8; i++) {
            whole ^= (q >> i & 1) * (p << i);
        }
        for (int i = 14; i >= 8; i--) {
            // x^8 + x^4 + x^3 + x + 1
            whole ^= (whole >> i & 1) * (0b100011011 << i - 8);
        }
        return whole;
    }

    static int swap(int b) {
        int v = 0;
        for (int i = 1; i < 256; i++) {
            v = product(b, i) == 1 ? i : v;
        }
        int swapped = v ^ 99;
        for (int places = 1; places <= 4; places++) {
            swapped ^= (v << places | v >> 8 - places) & 255;
        }
        return swapped;
    }

    private static int[][] columns(byte[] key) {
        int[][] columns = new int[44][4];
        int extra = 1;
        for (int i = 0; i < 44; i++) {
            for (int k = 0; k < 4; k++) {
                if (i < 4) {
                    columns[i][k] = key[4 * i + k] & 255;
                } else {
                    int before = i % 4 == 0 ? swap(columns[i - 1][(k + 1) % 4]) : columns[i - 1][k];
                    columns[i][k] = columns[i - 4][k] ^ before;
                }
            }
            if (i >= 4 && i % 4 == 0) {
                columns[i][0] ^= extra;
                extra = product(extra, 2);
            }
        }
        return columns;
    }

    static byte[] makeBlock(byte[] block, byte[] key) {
        int[][] columns = columns(key);
        int[] made = new int[16];
        for (int i = 0; i < 16; i++) {
            made[i] = block[i] & 255 ^ columns[i / 4][i % 4];
        }
        for (int round = 1; round <= 10; round++) {
            made = turned(made);
            made = round == 10 ? made : multiplied(made);
            for (int i = 0; i < 16; i++) {
                made[i] ^= columns[4 * round + i / 4][i % 4];
            }
        }
        byte[] bytes = new byte[16];
        for (int i = 0; i < 16; i++) {
            bytes[i] = (byte) made[i];
        }
        return bytes;
    }

    private static int[] turned(int[] block) {
        int[] turned = new int[16];
        for (int r = 0; r < 4; r++) {
            for (int k = 0; k < 4; k++) {
                turned[r + 4 * k] = swap(block[r + 4 * ((k + r) % 4)]);
            }
        }
        return turned;
    }

    private static int[] multiplied(int[] block) {
        int[][] times = {{2, 3, 1, 1}, {1, 2, 3, 1}, {1, 1, 2, 3}, {3, 1, 1, 2}};
        int[] multiplied = new int[16];
        for (int i = 0; i < 16; i++) {
            for (int k = 0; k < 4; k++) {
                multiplied[i] ^= product(times[i % 4][k], block[i / 4 * 4 + k]);
            }
        }
        return multiplied;
    }
}
