import java.util.Arrays;

/** An object and a model of it that have been told the same. */
final class Locked {
    static final byte[] NUMBER = Sheets.some(16, 9);
    static final byte[] OWNERS = Sheets.text("secret");
    static final byte[] USERS = Sheets.text("reader");
    static final int PERMISSIONS = -3904;

    final SheetKeys x = new SheetKeys();
    final Model model = new Model();

    /** Both entries are made, the key is unknown. */
    static Locked by(int revision, int length, byte[] owners, byte[] users) {
        Locked both = new Locked();
        both.handler(revision, length, PERMISSIONS, false);
        both.take(2, NUMBER);
        both.take(3, owners);
        both.take(4, users);
        both.enter(0);
        both.enter(1);
        return both;
    }

    /** The key is known. */
    static Locked opened(int revision, int length) {
        Locked both = by(revision, length, OWNERS, USERS);
        Check.same("open() by the user's password", both.open(USERS), 1);
        return both;
    }

    /** Nothing of the object is as in a new one, and its row has so many bytes. */
    static SheetKeys full(int many) {
        Locked both = opened(4, 11);
        both.x.digest();
        both.load(Sheets.some(many, 1));
        return both.x;
    }

    /** As full, but for the key. */
    static SheetKeys keyless(int many) {
        SheetKeys x = full(many);
        x.handler(4, 11, PERMISSIONS, false);
        return x;
    }

    void load(byte[] bytes) {
        Sheets.load(x, bytes);
        model.row = bytes;
    }

    void handler(int revision, int length, int permissions, boolean leftOut) {
        x.handler(revision, length, permissions, leftOut);
        model.handler(revision, length, permissions, leftOut);
    }

    void take(int what, byte[] bytes) {
        load(bytes);
        Check.same("take(" + what + ")", x.take(what), model.take(what));
    }

    void enter(int what) {
        x.enter(what);
        model.enter(what);
    }

    int open(byte[] password) {
        load(password);
        model.open();
        return x.open();
    }

    /** The row becomes blocks whose last one ends as these bytes do; they are a multiple of 16. */
    void loadBlocks(byte[] plain, int number, int generation) {
        load(plain);
        model.seal(number, generation, 2, 7, 8);
        // Sealing adds a block that only fills up; without it the bytes' own end stands where the filling is due.
        load(Arrays.copyOf(model.result, plain.length + 16));
    }
}
