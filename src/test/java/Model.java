import java.io.ByteArrayOutputStream;
import java.nio.ByteBuffer;
import java.security.GeneralSecurityException;
import java.security.MessageDigest;
import java.util.Arrays;
import javax.crypto.Cipher;
import javax.crypto.spec.IvParameterSpec;
import javax.crypto.spec.SecretKeySpec;

/** The document once more, by the Java library's own digest and ciphers: what SheetKeys is compared with. */
final class Model {
    static final byte[] PAD = Sheets.hex("28BF4E5E4E758A4164004E56FFFA01082E2E00B6D0683E802F0CA9FE6453697A");

    byte[] row = {};
    byte[] result = {};
    byte[] owner = new byte[32];
    byte[] user = new byte[32];
    byte[] number = {};
    byte[] ownerPassword = {};
    byte[] userPassword = {};
    byte[] key = {};
    int revision = 3;
    int length = 16;
    int permissions = -4;
    boolean leftOut = false;

    static byte[] joined(byte[]... parts) {
        ByteArrayOutputStream out = new ByteArrayOutputStream();
        for (byte[] part : parts) {
            out.writeBytes(part);
        }
        return out.toByteArray();
    }

    static byte[] digestOf(byte[]... parts) {
        try {
            return MessageDigest.getInstance("MD5").digest(joined(parts));
        } catch (GeneralSecurityException e) {
            throw new AssertionError(e);
        }
    }

    static byte[] streamOf(byte[] bytes, byte[] key) {
        return cipher("RC4", Cipher.ENCRYPT_MODE, key, null, bytes);
    }

    private static byte[] cipher(String name, int mode, byte[] key, byte[] before, byte[] bytes) {
        try {
            Cipher c = Cipher.getInstance(name);
            SecretKeySpec k = new SecretKeySpec(key, name.startsWith("AES") ? "AES" : "RC4");
            if (before == null) {
                c.init(mode, k);
            } else {
                c.init(mode, k, new IvParameterSpec(before));
            }
            return c.doFinal(bytes);
        } catch (GeneralSecurityException e) {
            throw new AssertionError(e);
        }
    }

    static byte[] padded(byte[] password) {
        return Arrays.copyOf(joined(password, PAD), 32);
    }

    static byte[] changed(byte[] key, int by) {
        byte[] bytes = key.clone();
        for (int i = 0; i < bytes.length; i++) {
            bytes[i] ^= (byte) by;
        }
        return bytes;
    }

    byte[] keyOf(byte[] password) {
        byte[] p = {(byte) permissions, (byte) (permissions >> 8), (byte) (permissions >> 16),
            (byte) (permissions >> 24)};
        byte[] end = revision == 4 && leftOut ? Sheets.hex("FFFFFFFF") : new byte[0];
        byte[] d = digestOf(padded(password), owner, p, number, end);
        for (int i = 0; revision > 2 && i < 50; i++) {
            d = digestOf(Arrays.copyOf(d, length));
        }
        return Arrays.copyOf(d, length);
    }

    byte[] ownerKeyOf(byte[] password) {
        byte[] d = digestOf(padded(password));
        for (int i = 0; revision > 2 && i < 50; i++) {
            d = digestOf(d);
        }
        return Arrays.copyOf(d, length);
    }

    byte[] ownerEntryFor(byte[] ownersPassword, byte[] usersPassword) {
        byte[] k = ownerKeyOf(ownersPassword);
        byte[] e = streamOf(padded(usersPassword), k);
        for (int i = 1; revision > 2 && i <= 19; i++) {
            e = streamOf(e, changed(k, i));
        }
        return e;
    }

    byte[] passwordOf(byte[] ownerEntry, byte[] k) {
        byte[] e = ownerEntry;
        for (int i = 19; revision > 2 && i >= 1; i--) {
            e = streamOf(e, changed(k, i));
        }
        return streamOf(e, k);
    }

    byte[] userEntryBy(byte[] k) {
        if (revision == 2) {
            return streamOf(PAD, k);
        }
        byte[] e = digestOf(PAD, number);
        for (int i = 0; i <= 19; i++) {
            e = streamOf(e, changed(k, i));
        }
        return Arrays.copyOf(e, 32);
    }

    boolean isUsers(byte[] password) {
        int counted = revision == 2 ? 32 : 16;
        return Arrays.equals(Arrays.copyOf(userEntryBy(keyOf(password)), counted), Arrays.copyOf(user, counted));
    }

    byte[] objectKey(int objectNumber, int generation, int method) {
        byte[] five = {(byte) objectNumber, (byte) (objectNumber >> 8), (byte) (objectNumber >> 16),
            (byte) generation, (byte) (generation >> 8)};
        byte[] d = digestOf(key, five, method == 2 ? Sheets.text("sAlT") : new byte[0]);
        return Arrays.copyOf(d, Math.min(16, key.length + 5));
    }

    int feed(int a, int b, int c, int d, int e) {
        if (row.length + 20 > 16384) {
            return -1;
        }
        int from = row.length;
        row = Arrays.copyOf(row, from + 20);
        int[] words = {a, b, c, d, e};
        for (int i = 0; i < 20; i++) {
            row[from + i] = (byte) (words[i / 4] >> (24 - 8 * (i % 4)));
        }
        return row.length;
    }

    int put(int i, int b) {
        if (i < 0 || i >= row.length) {
            throw new IndexOutOfBoundsException();
        }
        if (b < 0 || b > 255) {
            throw new IllegalArgumentException();
        }
        int was = row[i] & 255;
        row = row.clone();
        row[i] = (byte) b;
        return was;
    }

    int cut(int many) {
        if (many < 0) {
            throw new IllegalArgumentException();
        }
        int gone = Math.max(0, row.length - many);
        row = Arrays.copyOf(row, row.length - gone);
        return gone;
    }

    void handler(int newRevision, int newLength, int newPermissions, boolean newLeftOut) {
        boolean right = newRevision == 2 && newLength == 5
                || (newRevision == 3 || newRevision == 4) && newLength >= 5 && newLength <= 16;
        if (!right) {
            throw new IllegalArgumentException();
        }
        revision = newRevision;
        length = newLength;
        permissions = newPermissions;
        leftOut = newLeftOut;
        key = new byte[0];
    }

    int take(int what) {
        if (what < 0 || what > 4) {
            throw new IllegalArgumentException();
        }
        if (what < 2 && row.length != 32 || row.length > 64) {
            throw new IllegalStateException();
        }
        owner = what == 0 ? row : owner;
        user = what == 1 ? row : user;
        number = what == 2 ? row : number;
        ownerPassword = what == 3 ? row : ownerPassword;
        userPassword = what == 4 ? row : userPassword;
        key = what < 3 ? new byte[0] : key;
        return row.length;
    }

    void enter(int what) {
        if (what == 0) {
            owner = ownerEntryFor(ownerPassword, userPassword);
        } else if (what == 1) {
            user = userEntryBy(keyOf(userPassword));
        } else {
            throw new IllegalArgumentException();
        }
        key = new byte[0];
    }

    int open() {
        if (isUsers(row)) {
            key = keyOf(row);
            return 1;
        }
        byte[] found = passwordOf(owner, ownerKeyOf(row));
        if (isUsers(found)) {
            key = keyOf(found);
            return 2;
        }
        return 0;
    }

    int key(int i) {
        return byteOf(key, i);
    }

    void digest() {
        result = digestOf(row);
    }

    private void lookAtObject(int objectNumber, int generation, int method) {
        if (objectNumber < 0 || objectNumber >= 1 << 23 || generation < 0 || generation >= 1 << 16
                || method < 0 || method > 2) {
            throw new IllegalArgumentException();
        }
        if (key.length == 0) {
            throw new IllegalStateException();
        }
    }

    /** The same there and back. */
    private byte[] streamedOrCopied(byte[] k, int method) {
        return method == 0 ? row : streamOf(row, k);
    }

    int undo(int objectNumber, int generation, int method) {
        lookAtObject(objectNumber, generation, method);
        byte[] k = objectKey(objectNumber, generation, method);
        if (method < 2) {
            result = streamedOrCopied(k, method);
        } else {
            if (row.length < 32 || row.length % 16 != 0) {
                return -2;
            }
            byte[] plain = cipher("AES/CBC/NoPadding", Cipher.DECRYPT_MODE, Arrays.copyOf(k, 16),
                    Arrays.copyOf(row, 16), Arrays.copyOfRange(row, 16, row.length));
            int v = plain[plain.length - 1] & 255;
            if (v < 1 || v > 16) {
                return -3;
            }
            for (int i = 1; i <= v; i++) {
                if (plain[plain.length - i] != v) {
                    return -3;
                }
            }
            result = Arrays.copyOf(plain, plain.length - v);
        }
        return result.length;
    }

    int seal(int objectNumber, int generation, int method, int one, int other) {
        lookAtObject(objectNumber, generation, method);
        byte[] k = objectKey(objectNumber, generation, method);
        if (method < 2) {
            result = streamedOrCopied(k, method);
        } else {
            if (16 + (row.length / 16 + 1) * 16 > 16384) {
                throw new IllegalStateException();
            }
            byte[] before = ByteBuffer.allocate(16)
                    .putInt(one).putInt(other).putInt(~one).putInt(~other).array();
            result = joined(before,
                    cipher("AES/CBC/PKCS5Padding", Cipher.ENCRYPT_MODE, Arrays.copyOf(k, 16), before, row));
        }
        return result.length;
    }

    int count(int what) {
        return what == 0 ? result.length : what == 1 ? row.length : -1;
    }

    int at(int i) {
        return byteOf(result, i);
    }

    int entry(int what, int i) {
        return what == 0 ? byteOf(owner, i) : what == 1 ? byteOf(user, i) : -1;
    }

    int keep() {
        row = result;
        return row.length;
    }

    private static int byteOf(byte[] bytes, int i) {
        return i < 0 || i >= bytes.length ? -1 : bytes[i] & 255;
    }
}
