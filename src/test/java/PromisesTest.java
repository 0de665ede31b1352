import java.util.Arrays;

/** Promise by promise: ordinary inputs, the edges that the document names, and wrong inputs. */
public final class PromisesTest {
    private static final byte[] NUMBER = Sheets.some(16, 9);

    public static void main(String[] args) {
        aNewObject();
        feed();
        put();
        cut();
        handler();
        handlerReachesKeys();
        take();
        takeAndTheKey();
        enter();
        open();
        openTheOwners();
        openByTakenEntries();
        key();
        digest();
        undoMethods();
        undoByItsOwnKey();
        undoBlocksRefuses();
        wrongObjects();
        seal();
        countAndAt();
        entry();
        keep();
        Check.end();
    }

    /** An object and a model of it with both entries made; not yet opened. */
    private static Model lock(SheetKeys x, int revision, int length, byte[] owners, byte[] users) {
        Model model = new Model();
        Sheets.told(x, 2, NUMBER);
        Sheets.told(x, 3, owners);
        Sheets.told(x, 4, users);
        model.number = NUMBER;
        model.ownerPassword = owners;
        model.userPassword = users;
        x.handler(revision, length, -3904, false);
        model.handler(revision, length, -3904, false);
        x.enter(0);
        model.enter(0);
        x.enter(1);
        model.enter(1);
        return model;
    }

    private static Model opened(SheetKeys x, int revision, int length) {
        byte[] users = Sheets.text("reader");
        Model model = lock(x, revision, length, Sheets.text("secret"), users);
        Check.same("open()", Sheets.opened(x, users), 1);
        model.row = users;
        model.open();
        return model;
    }

    private static void bothLoad(SheetKeys x, Model model, byte[] bytes) {
        Sheets.load(x, bytes);
        model.row = bytes;
    }

    private static void aNewObject() {
        SheetKeys x = new SheetKeys();
        Check.same("1: row", x.count(1), 0);
        Check.same("1: result", x.count(0), 0);
        Check.same("1: at(0)", x.at(0), SheetKeys.NONE);
        Check.same("1: key(0)", x.key(0), SheetKeys.NONE);
        Check.same("1: owner entry", Sheets.entry(x, 0), new byte[32]);
        Check.same("1: user entry", Sheets.entry(x, 1), new byte[32]);
        Check.same("1: keep()", x.keep(), 0);
        Check.same("1: open() by no password", x.open(), 0);
        Model model = new Model();
        x.enter(1);
        model.enter(1);
        Check.same("1: the user entry by the first handler", Sheets.entry(x, 1), model.user);
        x.enter(0);
        model.enter(0);
        Check.same("1: the owner entry by the first handler", Sheets.entry(x, 0), model.owner);
        x.enter(1);
        model.enter(1);
        Check.same("1: open()", x.open(), 1);
        Check.same("1: the key by the first handler", Sheets.key(x), model.keyOf(new byte[0]));
        Check.same("1: that has 16 bytes", Sheets.key(x).length, 16);
        Check.same("1: another object is new", new SheetKeys().open(), 0);
    }

    private static void feed() {
        SheetKeys x = new SheetKeys();
        Check.same("2: feed", x.feed(0x01020384, 0x85060708, 0x090a0b0c, 0x0d0e0f10, 0x11f21314), 20);
        Check.same("2: row", Sheets.row(x), Sheets.hex("0102038485060708090a0b0c0d0e0f1011f21314"));
        Check.same("2: feed again", x.feed(-1, 0, Integer.MIN_VALUE, Integer.MAX_VALUE, 255), 40);
        Check.same("2: row", Sheets.row(x), Sheets.hex("0102038485060708090a0b0c0d0e0f1011f21314"
                + "ffffffff00000000800000007fffffff000000ff"));
        x.cut(3);
        Check.same("2: feed behind a cut", x.feed(1, 2, 3, 4, 5), 23);
        Check.same("2: row", Sheets.row(x), Sheets.hex("0102030000000100000002000000030000000400000005"));
        Check.same("2: no result comes of it", x.count(0), 0);
    }

    private static void put() {
        SheetKeys x = new SheetKeys();
        Check.refused("3: no bytes", x, IndexOutOfBoundsException.class, () -> x.put(0, 1));
        x.feed(1, 2, 3, 4, 0x050607fe);
        Check.same("3: put(19, 0)", x.put(19, 0), 254);
        Check.same("3: put(19, 255)", x.put(19, 255), 0);
        Check.same("3: put(19, 3)", x.put(19, 3), 255);
        Check.same("3: put(3, 9)", x.put(3, 9), 1);
        Check.same("3: row", Sheets.row(x), Sheets.hex("0000000900000002000000030000000405060703"));
        Check.refused("3: put(20, 0)", x, IndexOutOfBoundsException.class, () -> x.put(20, 0));
        Check.refused("3: put(-1, 0)", x, IndexOutOfBoundsException.class, () -> x.put(-1, 0));
        Check.refused("3: put(max, 0)", x, IndexOutOfBoundsException.class, () -> x.put(Integer.MAX_VALUE, 0));
        Check.refused("3: put(min, 0)", x, IndexOutOfBoundsException.class, () -> x.put(Integer.MIN_VALUE, 0));
        Check.refused("3: put(0, 256)", x, IllegalArgumentException.class, () -> x.put(0, 256));
        Check.refused("3: put(0, -1)", x, IllegalArgumentException.class, () -> x.put(0, -1));
        Check.refused("3: both wrong", x, IndexOutOfBoundsException.class, () -> x.put(20, 256));
        x.cut(5);
        Check.refused("3: a byte cut away", x, IndexOutOfBoundsException.class, () -> x.put(5, 0));
        Check.same("3: the last one left", x.put(4, 8), 0);
    }

    private static void cut() {
        SheetKeys x = new SheetKeys();
        Check.same("4: cut(0) of none", x.cut(0), 0);
        x.feed(0x01020304, 0x05060708, 3, 4, 5);
        Check.same("4: cut(max)", x.cut(Integer.MAX_VALUE), 0);
        Check.same("4: cut(21)", x.cut(21), 0);
        Check.same("4: cut(20)", x.cut(20), 0);
        Check.same("4: count(1)", x.count(1), 20);
        Check.same("4: cut(19)", x.cut(19), 1);
        Check.same("4: cut(6)", x.cut(6), 13);
        Check.same("4: row", Sheets.row(x), Sheets.hex("010203040506"));
        Check.refused("4: cut(-1)", x, IllegalArgumentException.class, () -> x.cut(-1));
        Check.refused("4: cut(min)", x, IllegalArgumentException.class, () -> x.cut(Integer.MIN_VALUE));
        Check.same("4: cut(0)", x.cut(0), 6);
        Check.same("4: count(1)", x.count(1), 0);
        x.digest();
        x.cut(0);
        Check.same("4: the result stays", x.count(0), 16);
    }

    private static void refusedHandler(SheetKeys x, int revision, int length) {
        Check.refused("5: handler(" + revision + ", " + length + ")", x, IllegalArgumentException.class, () -> {
            x.handler(revision, length, 77, true);
            return 0;
        });
    }

    private static void handler() {
        SheetKeys x = new SheetKeys();
        Model model = opened(x, 4, 11);
        int[] noRevision = {1, 5, 0, -1, 6, Integer.MAX_VALUE, Integer.MIN_VALUE};
        for (int revision : noRevision) {
            refusedHandler(x, revision, 5);
            refusedHandler(x, revision, 16);
        }
        int[] noLength = {4, 17, 0, -5, 40, 128, Integer.MAX_VALUE, Integer.MIN_VALUE};
        for (int length : noLength) {
            refusedHandler(x, 2, length);
            refusedHandler(x, 3, length);
            refusedHandler(x, 4, length);
        }
        for (int length = 6; length <= 16; length++) {
            refusedHandler(x, 2, length);
        }
        Check.same("5: the key is still there", Sheets.key(x), model.key);
        x.handler(4, 11, -3904, false);
        Check.same("5: the key is unknown even if nothing changes", x.key(0), SheetKeys.NONE);
        Check.same("5: the owner entry stays", Sheets.entry(x, 0), model.owner);
        Check.same("5: the user entry stays", Sheets.entry(x, 1), model.user);
        Check.same("5: open()", Sheets.opened(x, Sheets.text("reader")), 1);
        Check.same("5: the key is back", Sheets.key(x), model.key);
        x.handler(4, 11, -3903, false);
        Check.same("5: other permissions, another key", Sheets.opened(x, Sheets.text("reader")), 0);
    }

    private static void handlerReachesKeys() {
        int[] permissions = {0, -1, -4, 0x01020384, Integer.MIN_VALUE, Integer.MAX_VALUE};
        for (int revision = 2; revision <= 4; revision++) {
            for (int length = 5; length <= (revision == 2 ? 5 : 16); length++) {
                for (int i = 0; i < 2 * permissions.length; i++) {
                    SheetKeys x = new SheetKeys();
                    Model model = new Model();
                    boolean leftOut = i % 2 == 1;
                    x.handler(revision, length, permissions[i / 2], leftOut);
                    model.handler(revision, length, permissions[i / 2], leftOut);
                    x.enter(1);
                    model.enter(1);
                    String what = "5: handler(" + revision + ", " + length + ", " + permissions[i / 2] + ", " + leftOut;
                    Check.same(what + ") entry", Sheets.entry(x, 1), model.user);
                    Check.same(what + ") open", x.open(), 1);
                    Check.same(what + ") key", Sheets.key(x), model.keyOf(new byte[0]));
                }
            }
        }
    }

    private static void take() {
        SheetKeys x = new SheetKeys();
        int[] noEntry = {0, 1, 31, 33, 64};
        for (int many : noEntry) {
            Sheets.load(x, Sheets.some(many, 1));
            Check.refused("6: take(0) of " + many, x, IllegalStateException.class, () -> x.take(0));
            Check.refused("6: take(1) of " + many, x, IllegalStateException.class, () -> x.take(1));
        }
        int[] rows = {0, 32, 65};
        for (int many : rows) {
            Sheets.load(x, Sheets.some(many, 1));
            int[] wrong = {-1, 5, Integer.MAX_VALUE, Integer.MIN_VALUE};
            for (int what : wrong) {
                Check.refused("6: take(" + what + ")", x, IllegalArgumentException.class, () -> x.take(what));
            }
        }
        for (int what = 2; what <= 4; what++) {
            int w = what;
            Sheets.load(x, Sheets.some(65, 1));
            Check.refused("6: take(" + w + ") of 65", x, IllegalStateException.class, () -> x.take(w));
            Sheets.load(x, Sheets.some(100, 1));
            Check.refused("6: take(" + w + ") of 100", x, IllegalStateException.class, () -> x.take(w));
        }
        byte[] bytes = Sheets.some(32, 2);
        Sheets.load(x, bytes);
        Check.same("6: take(0)", x.take(0), 32);
        Check.same("6: the row stays", Sheets.row(x), bytes);
        Check.same("6: the owner entry", Sheets.entry(x, 0), bytes);
        Check.same("6: the user entry is not touched", Sheets.entry(x, 1), new byte[32]);
        x.put(0, 0xee);
        Check.same("6: the entry is not the row", Sheets.entry(x, 0), bytes);
        Check.same("6: take(1)", x.take(1), 32);
        Check.same("6: the user entry", x.entry(1, 0), 0xee);
        Check.same("6: the owner entry stays", Sheets.entry(x, 0), bytes);
    }

    /** Numbers and passwords of 0 .. 64 bytes: what was told is seen by the entries that are made. */
    private static void takeAndTheKey() {
        int[] lengths = {64, 33, 32, 31, 1, 0, 63};
        SheetKeys x = new SheetKeys();
        Model model = new Model();
        for (int many : lengths) {
            model.number = Sheets.some(many, 4);
            model.ownerPassword = Sheets.some(many, 5);
            model.userPassword = Sheets.some(many, 6);
            Sheets.told(x, 2, model.number);
            Sheets.told(x, 3, model.ownerPassword);
            Sheets.told(x, 4, model.userPassword);
            x.enter(0);
            model.enter(0);
            x.enter(1);
            model.enter(1);
            Check.same("6: owner entry, " + many, Sheets.entry(x, 0), model.owner);
            Check.same("6: user entry, " + many, Sheets.entry(x, 1), model.user);
        }
        for (int what = 0; what <= 4; what++) {
            SheetKeys y = new SheetKeys();
            Model other = opened(y, 3, 16);
            Sheets.told(y, what, Sheets.some(32, 7));
            Check.same("6: the key after take(" + what + ")", Sheets.key(y), what <= 2 ? new byte[0] : other.key);
        }
    }

    private static void enter() {
        SheetKeys x = new SheetKeys();
        Model model = opened(x, 4, 16);
        int[] wrong = {2, -1, 3, Integer.MAX_VALUE, Integer.MIN_VALUE};
        for (int what : wrong) {
            Check.refused("7: enter(" + what + ")", x, IllegalArgumentException.class, () -> {
                x.enter(what);
                return 0;
            });
        }
        Check.same("7: a refused one leaves the key", Sheets.key(x), model.key);
        x.enter(0);
        Check.same("7: the key is unknown after enter(0)", x.key(0), SheetKeys.NONE);
        Check.same("7: the same owner entry", Sheets.entry(x, 0), model.owner);
        Check.same("7: open()", x.open(), 1);
        x.enter(1);
        Check.same("7: the key is unknown after enter(1)", x.key(0), SheetKeys.NONE);
        Check.same("7: the same user entry", Sheets.entry(x, 1), model.user);
        Check.same("7: the row stays", Sheets.row(x), Sheets.text("reader"));
        for (int revision = 2; revision <= 4; revision++) {
            SheetKeys y = new SheetKeys();
            Model due = lock(y, revision, revision == 2 ? 5 : 3 + 2 * revision, Sheets.text("o"), Sheets.text("u"));
            Check.same("7: owner entry of " + revision, Sheets.entry(y, 0), due.owner);
            Check.same("7: user entry of " + revision, Sheets.entry(y, 1), due.user);
            byte[] end = Arrays.copyOfRange(Sheets.entry(y, 1), 16, 32);
            Check.same("7: sixteen 0 of " + revision, Arrays.equals(end, new byte[16]) ? 1 : 0, revision == 2 ? 0 : 1);
        }
        SheetKeys z = new SheetKeys();
        z.handler(2, 5, -4, false);
        z.enter(0);
        Check.same("7: no passwords, revision 2", Sheets.entry(z, 0),
                Model.streamOf(Model.PAD, Arrays.copyOf(Model.digestOf(Model.PAD), 5)));
    }

    private static void open() {
        for (int revision = 2; revision <= 4; revision++) {
            SheetKeys x = new SheetKeys();
            byte[] owners = Sheets.some(40, 2);
            byte[] users = Sheets.some(33, 3);
            Model model = lock(x, revision, revision == 2 ? 5 : 16, owners, users);
            byte[] key = model.keyOf(users);
            Check.same("8: no key yet", x.key(0), SheetKeys.NONE);
            Check.same("8: neither", Sheets.opened(x, Sheets.text("none")), 0);
            Check.same("8: no key by a wrong one", x.key(0), SheetKeys.NONE);
            Check.same("8: the user's", Sheets.opened(x, users), 1);
            Check.same("8: its key", Sheets.key(x), key);
            Check.same("8: the row stays", Sheets.row(x), users);
            Check.same("8: only 32 bytes count", Sheets.opened(x, Arrays.copyOf(users, 32)), 1);
            Check.same("8: more bytes than a password has", Sheets.opened(x, Model.joined(Arrays.copyOf(users, 32),
                    Sheets.some(200, 1))), 1);
            Check.same("8: 31 are not enough", Sheets.opened(x, Arrays.copyOf(users, 31)), 0);
            Check.same("8: the key as it was", Sheets.key(x), key);
            Check.same("8: the owner's", Sheets.opened(x, owners), 2);
            Check.same("8: the user's key", Sheets.key(x), key);
            Check.same("8: 32 of the owner's", Sheets.opened(x, Arrays.copyOf(owners, 32)), 2);
            Check.same("8: 31 of the owner's", Sheets.opened(x, Arrays.copyOf(owners, 31)), 0);
            Check.same("8: no password", Sheets.opened(x, new byte[0]), 0);
            Check.same("8: THE PAD is the user's only if that is empty", Sheets.opened(x, Model.PAD), 0);
            Check.same("8: no result comes of it", x.count(0), 0);
        }
    }

    private static void openTheOwners() {
        SheetKeys x = new SheetKeys();
        Model model = lock(x, 3, 7, Sheets.text("both"), Sheets.text("both"));
        Check.same("8: a password of both is the user's", Sheets.opened(x, Sheets.text("both")), 1);
        Check.same("8: its key", Sheets.key(x), model.keyOf(Sheets.text("both")));
        SheetKeys y = new SheetKeys();
        Model other = lock(y, 4, 16, Sheets.text("owner"), new byte[0]);
        y.handler(4, 16, -3904, true);
        other.handler(4, 16, -3904, true);
        Check.same("8: the entry was made with data", Sheets.opened(y, new byte[0]), 0);
        y.enter(1);
        other.enter(1);
        Check.same("8: the owner's, before any other opened", Sheets.opened(y, Sheets.text("owner")), 2);
        Check.same("8: the key of what came of the entry", Sheets.key(y), other.keyOf(new byte[0]));
        Check.same("8: THE PAD for an empty one", Sheets.opened(y, Model.PAD), 1);
        Sheets.told(y, 3, Sheets.text("changed"));
        Check.same("8: the password told later is not the entry's", Sheets.opened(y, Sheets.text("changed")), 0);
        Check.same("8: but the entry's still is", Sheets.opened(y, Sheets.text("owner")), 2);
    }

    private static void openByTakenEntries() {
        for (int revision = 2; revision <= 3; revision++) {
            for (int spoiled = 0; spoiled < 32; spoiled++) {
                SheetKeys x = new SheetKeys();
                Model model = lock(x, revision, 5, Sheets.text("oo"), Sheets.text("uu"));
                byte[] entry = model.user.clone();
                entry[spoiled] ^= 64;
                Sheets.told(x, 1, entry);
                int due = revision == 3 && spoiled >= 16 ? 1 : 0;
                String what = "8: revision " + revision + ", spoiled byte " + spoiled;
                Check.same(what, Sheets.opened(x, Sheets.text("uu")), due);
                Check.same(what, Sheets.opened(x, Sheets.text("oo")), 2 * due);
            }
        }
    }

    private static void key() {
        for (int length = 5; length <= 16; length++) {
            SheetKeys x = new SheetKeys();
            Model model = opened(x, 3, length);
            for (int i = 0; i < length; i++) {
                Check.same("9: key(" + i + ") of " + length, x.key(i), model.keyOf(Sheets.text("reader"))[i] & 255);
            }
            int[] none = {length, -1, 16, 17, Integer.MAX_VALUE, Integer.MIN_VALUE};
            for (int i : none) {
                Check.same("9: key(" + i + ") of " + length, x.key(i), SheetKeys.NONE);
            }
            x.handler(3, 16, 0, false);
            Check.same("9: an unknown key", x.key(0), SheetKeys.NONE);
        }
    }

    private static void digest() {
        SheetKeys x = new SheetKeys();
        x.digest();
        Check.same("10: of nothing", Sheets.result(x), Sheets.hex("d41d8cd98f00b204e9800998ecf8427e"));
        Sheets.load(x, Sheets.text("abc"));
        x.digest();
        Check.same("10: of abc", Sheets.result(x), Sheets.hex("900150983cd24fb0d6963f7d28e17f72"));
        Check.same("10: the row stays", Sheets.row(x), Sheets.text("abc"));
        Check.same("10: no key is needed or made", x.key(0), SheetKeys.NONE);
        for (int many = 0; many <= 200; many++) {
            byte[] bytes = Sheets.some(many, many);
            SheetKeys y = new SheetKeys();
            Sheets.load(y, bytes);
            y.digest();
            Check.same("10: of " + many, Sheets.result(y), Model.digestOf(bytes));
        }
        byte[] many = Sheets.some(9000, 1);
        Sheets.load(x, many);
        x.digest();
        Check.same("10: of 9000", Sheets.result(x), Model.digestOf(many));
    }

    private static void undoMethods() {
        int[] numbers = {0, 1, 255, 256, 0x123456, 8388607};
        int[] generations = {0, 1, 255, 256, 65535};
        for (int length = 5; length <= 16; length++) {
            SheetKeys x = new SheetKeys();
            Model model = opened(x, 4, length);
            for (int i = 0; i < 30; i++) {
                int number = numbers[i % 6];
                int generation = generations[i % 5];
                byte[] bytes = Sheets.some(3 * i, i);
                for (int method = 0; method <= 2; method++) {
                    String what = "11, 12: " + number + ", " + generation + ", " + method + ", length " + length;
                    bothLoad(x, model, bytes);
                    Check.same(what + " seal", x.seal(number, generation, method, i, -i),
                            model.seal(number, generation, method, i, -i));
                    Check.same(what + " sealed", Sheets.result(x), model.result);
                    x.keep();
                    Check.same(what + " undo", x.undo(number, generation, method), bytes.length);
                    Check.same(what + " undone", Sheets.result(x), bytes);
                    Check.same(what + " the row stays", Sheets.row(x), model.result);
                }
            }
        }
        SheetKeys y = new SheetKeys();
        Model model = opened(y, 2, 5);
        bothLoad(y, model, Sheets.some(300, 2));
        Check.same("11: by the stream", y.undo(12, 34, 1), model.undo(12, 34, 1));
        Check.same("11: undone by the stream", Sheets.result(y), model.result);
        Sheets.load(y, new byte[0]);
        Check.same("11: no bytes by the stream", y.undo(12, 34, 1), 0);
        Check.same("11: no bytes as they are", y.undo(12, 34, 0), 0);
    }

    /** Undoing takes the key of the object that it is told, whatever was sealed before. */
    private static void undoByItsOwnKey() {
        for (int method = 1; method <= 2; method++) {
            SheetKeys fresh = new SheetKeys();
            Model model = opened(fresh, 4, 16);
            byte[] plain = Sheets.some(50, 6);
            model.row = plain;
            model.seal(20, 1, method, 3, 4);
            byte[] sealed = model.result;
            bothLoad(fresh, model, sealed);
            Check.same("11: undo without a seal before", fresh.undo(20, 1, method), 50);
            Check.same("11: undone without a seal before", Sheets.result(fresh), plain);
            int[][] others = {{21, 1}, {20, 0}, {20, 257}, {20 + 256, 1}, {20 + 65536, 1}};
            for (int[] o : others) {
                fresh.seal(o[0], o[1], method, 5, 6);
                Check.same("11: undo after another seal", fresh.undo(20, 1, method), 50);
                Check.same("11: undone after another seal", Sheets.result(fresh), plain);
                Check.same("11: undo by another key", fresh.undo(o[0], o[1], method), model.undo(o[0], o[1], method));
                Check.same("11: undone by another key", Sheets.result(fresh), method == 1 ? model.result : plain);
            }
        }
    }

    private static void undoBlocksRefuses() {
        SheetKeys x = new SheetKeys();
        Model model = opened(x, 4, 16);
        bothLoad(x, model, Sheets.some(3, 3));
        x.undo(1, 1, 0);
        byte[] first = Sheets.result(x);
        int[] lengths = {0, 1, 15, 16, 17, 31, 33, 40, 47, 49};
        for (int many : lengths) {
            Sheets.load(x, Sheets.some(many, 1));
            Check.same("11: LENGTH of " + many, x.undo(1, 1, 2), SheetKeys.LENGTH);
            Check.same("11: the result stays", Sheets.result(x), first);
        }
        // Sealing fills up one block more; with that one cut away, the bytes' own end stands where padding is due.
        for (int v = 0; v <= 18; v++) {
            for (int wrong = 0; wrong <= 17; wrong++) {
                byte[] bytes = Sheets.some(48, 8);
                Arrays.fill(bytes, 48 - Math.min(v, 16), 48, (byte) v);
                bytes[47] = (byte) v;
                if (wrong >= 1 && wrong <= 16) {
                    bytes[48 - wrong] ^= 32;
                }
                bothLoad(x, model, bytes);
                model.seal(5, 6, 2, 7, 8);
                x.seal(5, 6, 2, 7, 8);
                x.keep();
                x.cut(64);
                Check.same("a result to stay", x.undo(1, 1, 0), 64);
                byte[] before = Sheets.result(x);
                boolean right = v >= 1 && v <= 16 && (wrong == 0 || wrong > v);
                int due = right ? 48 - v : SheetKeys.PADDING;
                String what = "11: padding " + v + ", wrong at " + wrong;
                Check.same(what, x.undo(5, 6, 2), due);
                Check.same(what, Sheets.result(x), right ? Arrays.copyOf(bytes, 48 - v) : before);
            }
        }
        Check.same("the model saw the same", model.result.length, 80);
    }

    private static void wrongObjects() {
        SheetKeys shut = new SheetKeys();
        SheetKeys open = new SheetKeys();
        opened(open, 4, 16);
        shut.feed(1, 2, 3, 4, 5);
        int[][] wrong = {
            {-1, 0, 0}, {8388608, 0, 0}, {Integer.MAX_VALUE, 0, 1}, {Integer.MIN_VALUE, 0, 2},
            {0, -1, 0}, {0, 65536, 1}, {0, Integer.MAX_VALUE, 2}, {0, Integer.MIN_VALUE, 0},
            {0, 0, -1}, {0, 0, 3}, {0, 0, Integer.MAX_VALUE}, {0, 0, Integer.MIN_VALUE}
        };
        SheetKeys[] both = {shut, open};
        for (SheetKeys x : both) {
            for (int[] w : wrong) {
                String what = Arrays.toString(w);
                Check.refused("11: " + what, x, IllegalArgumentException.class, () -> x.undo(w[0], w[1], w[2]));
                Check.refused("12: " + what, x, IllegalArgumentException.class, () -> x.seal(w[0], w[1], w[2], 1, 2));
            }
        }
        for (int method = 0; method <= 2; method++) {
            int m = method;
            Check.refused("11: no key, " + m, shut, IllegalStateException.class, () -> shut.undo(0, 0, m));
            Check.refused("12: no key, " + m, shut, IllegalStateException.class, () -> shut.seal(0, 0, m, 1, 2));
            Check.refused("11: no key, highest, " + m, shut, IllegalStateException.class,
                    () -> shut.undo(8388607, 65535, m));
        }
    }

    private static void seal() {
        SheetKeys x = new SheetKeys();
        Model model = opened(x, 4, 16);
        int[][] told = {{0x01020304, 0x85868788}, {0, -1}, {Integer.MIN_VALUE, Integer.MAX_VALUE}};
        for (int[] t : told) {
            for (int many = 0; many <= 33; many++) {
                bothLoad(x, model, Sheets.some(many, 5));
                int due = 16 + many / 16 * 16 + 16;
                Check.same("12: bytes of " + many, x.seal(3, 2, 2, t[0], t[1]), due);
                model.seal(3, 2, 2, t[0], t[1]);
                Check.same("12: sealed " + many, Sheets.result(x), model.result);
                Check.same("12: the row stays", Sheets.row(x), model.row);
            }
        }
        bothLoad(x, model, Sheets.some(10, 5));
        x.seal(3, 2, 2, 0x01020304, 0x85868788);
        Check.same("12: what goes before", Arrays.copyOf(Sheets.result(x), 16),
                Sheets.hex("0102030485868788fefdfcfb7a797877"));
        Check.same("12: as they are", x.seal(3, 2, 0, 5, 6), 10);
        Check.same("12: as they are", Sheets.result(x), model.row);
        Check.same("12: by the stream", x.seal(3, 2, 1, 5, 6), 10);
        byte[] sealed = Sheets.result(x);
        x.seal(3, 2, 1, 7, 8);
        Check.same("12: the stream does not use what is told", Sheets.result(x), sealed);
        byte[] many = Sheets.some(8000, 4);
        for (int method = 0; method <= 2; method++) {
            bothLoad(x, model, many);
            Check.same("12: many bytes", x.seal(3, 2, method, 1, 2), model.seal(3, 2, method, 1, 2));
            Check.same("12: many bytes sealed", Sheets.result(x), model.result);
            x.keep();
            Check.same("11: many bytes", x.undo(3, 2, method), 8000);
            Check.same("11: many bytes undone", Sheets.result(x), many);
        }
    }

    private static void countAndAt() {
        SheetKeys x = new SheetKeys();
        opened(x, 3, 16);
        Sheets.load(x, Sheets.hex("00ff8001"));
        Check.same("13: no result yet", x.count(0), 0);
        Check.same("13: the row", x.count(1), 4);
        x.undo(0, 0, 0);
        x.cut(1);
        Check.same("13: the result", x.count(0), 4);
        Check.same("13: the row", x.count(1), 1);
        int[] wrong = {2, -1, 3, Integer.MAX_VALUE, Integer.MIN_VALUE};
        for (int what : wrong) {
            Check.same("13: count(" + what + ")", x.count(what), SheetKeys.NONE);
        }
        int[] due = {0, 255, 128, 1};
        for (int i = 0; i < 4; i++) {
            Check.same("14: at(" + i + ")", x.at(i), due[i]);
        }
        int[] none = {4, -1, 16383, 16384, Integer.MAX_VALUE, Integer.MIN_VALUE};
        for (int i : none) {
            Check.same("14: at(" + i + ")", x.at(i), SheetKeys.NONE);
        }
        x.undo(0, 0, 0);
        Check.same("14: a byte of the result before", x.at(1), SheetKeys.NONE);
        x.put(0, 77);
        Check.same("14: the result is not the row", x.at(0), 0);
    }

    private static void entry() {
        SheetKeys x = new SheetKeys();
        byte[] owners = Sheets.some(32, 1);
        byte[] users = Sheets.some(32, 2);
        Sheets.told(x, 0, owners);
        Sheets.told(x, 1, users);
        for (int i = 0; i < 32; i++) {
            Check.same("15: entry(0, " + i + ")", x.entry(0, i), owners[i] & 255);
            Check.same("15: entry(1, " + i + ")", x.entry(1, i), users[i] & 255);
            Check.same("15: entry(2, " + i + ")", x.entry(2, i), SheetKeys.NONE);
            Check.same("15: entry(-1, " + i + ")", x.entry(-1, i), SheetKeys.NONE);
        }
        int[] none = {32, -1, 33, Integer.MAX_VALUE, Integer.MIN_VALUE};
        for (int i : none) {
            Check.same("15: entry(0, " + i + ")", x.entry(0, i), SheetKeys.NONE);
            Check.same("15: entry(1, " + i + ")", x.entry(1, i), SheetKeys.NONE);
            Check.same("15: entry(3, " + i + ")", x.entry(3, i), SheetKeys.NONE);
        }
        Check.same("15: entry(max, 0)", x.entry(Integer.MAX_VALUE, 0), SheetKeys.NONE);
        Check.same("15: entry(min, 0)", x.entry(Integer.MIN_VALUE, 0), SheetKeys.NONE);
    }

    private static void keep() {
        SheetKeys x = new SheetKeys();
        x.feed(1, 2, 3, 4, 5);
        Check.same("16: no result", x.keep(), 0);
        Check.same("16: no row then", x.count(1), 0);
        Sheets.load(x, Sheets.text("abc"));
        x.digest();
        byte[] due = Sheets.hex("900150983cd24fb0d6963f7d28e17f72");
        Check.same("16: keep()", x.keep(), 16);
        Check.same("16: the row", Sheets.row(x), due);
        Check.same("16: the result stays", Sheets.result(x), due);
        x.put(0, 1);
        Check.same("16: the result is not the row", x.at(0), 0x90);
        x.cut(2);
        Check.same("16: keep() again", x.keep(), 16);
        Check.same("16: the row again", Sheets.row(x), due);
    }
}
