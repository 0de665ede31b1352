import java.nio.charset.StandardCharsets;
import java.util.Arrays;

/** What tests do with an object again and again. */
final class Sheets {
    private Sheets() {
    }

    static byte[] text(String s) {
        return s.getBytes(StandardCharsets.ISO_8859_1);
    }

    static byte[] hex(String s) {
        byte[] bytes = new byte[s.length() / 2];
        for (int i = 0; i < bytes.length; i++) {
            bytes[i] = (byte) Integer.parseInt(s.substring(2 * i, 2 * i + 2), 16);
        }
        return bytes;
    }

    /** Bytes that are all different from their neighbours, by a seed. */
    static byte[] some(int many, int seed) {
        byte[] bytes = new byte[many];
        for (int i = 0; i < many; i++) {
            bytes[i] = (byte) (i * 37 + (i >> 8) * 11 + seed * 101 + 5);
        }
        return bytes;
    }

    /** The row becomes these bytes. */
    static void load(SheetKeys x, byte[] bytes) {
        x.cut(0);
        byte[] whole = Arrays.copyOf(bytes, (bytes.length + 19) / 20 * 20);
        for (int i = 0; i < whole.length; i += 20) {
            x.feed(word(whole, i), word(whole, i + 4), word(whole, i + 8), word(whole, i + 12), word(whole, i + 16));
        }
        x.cut(bytes.length);
    }

    static int word(byte[] bytes, int i) {
        return (bytes[i] & 255) << 24 | (bytes[i + 1] & 255) << 16 | (bytes[i + 2] & 255) << 8 | bytes[i + 3] & 255;
    }

    static byte[] row(SheetKeys x) {
        byte[] bytes = new byte[x.count(1)];
        for (int i = 0; i < bytes.length; i++) {
            int was = x.put(i, 0);
            x.put(i, was);
            bytes[i] = (byte) was;
        }
        return bytes;
    }

    static byte[] result(SheetKeys x) {
        byte[] bytes = new byte[x.count(0)];
        for (int i = 0; i < bytes.length; i++) {
            bytes[i] = (byte) x.at(i);
        }
        return bytes;
    }

    static byte[] entry(SheetKeys x, int what) {
        byte[] bytes = new byte[32];
        for (int i = 0; i < bytes.length; i++) {
            bytes[i] = (byte) x.entry(what, i);
        }
        return bytes;
    }

    /** No bytes if the key is unknown. */
    static byte[] key(SheetKeys x) {
        byte[] bytes = new byte[17];
        int many = 0;
        for (int b = x.key(0); b != SheetKeys.NONE && many < 17; b = x.key(many)) {
            bytes[many] = (byte) b;
            many++;
        }
        return Arrays.copyOf(bytes, many);
    }

    /** For a call that answers nothing. */
    static int handler(SheetKeys x, int revision, int length, int permissions, boolean leftOut) {
        x.handler(revision, length, permissions, leftOut);
        return 0;
    }

    /** For a call that answers nothing. */
    static int enter(SheetKeys x, int what) {
        x.enter(what);
        return 0;
    }

    /** All that can be seen of the object, what it has been told too; the object is used up by it. */
    static String look(SheetKeys x) {
        StringBuilder seen = new StringBuilder();
        seen.append("result ").append(Arrays.toString(result(x)));
        seen.append(entries(x));
        seen.append(" key ").append(Arrays.toString(key(x)));
        seen.append(" open ").append(x.open());
        seen.append(" key ").append(Arrays.toString(key(x)));
        x.enter(0);
        x.enter(1);
        seen.append(" made").append(entries(x)).append(" row");
        int many = x.count(1);
        for (int i = 0; i < many; i++) {
            seen.append(' ').append(x.put(i, 0));
        }
        return seen.toString();
    }

    private static String entries(SheetKeys x) {
        return " owner " + Arrays.toString(entry(x, 0)) + " user " + Arrays.toString(entry(x, 1));
    }
}
