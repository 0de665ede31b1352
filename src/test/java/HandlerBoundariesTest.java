import java.util.Arrays;

/** The boundary cases of the handler, its entries and its key, sentence by sentence: promises 5 to 9 and 15. */
public final class HandlerBoundariesTest {
    private static final int LOWEST = Integer.MIN_VALUE;
    private static final int HIGHEST = Integer.MAX_VALUE;

    public static void main(String[] args) {
        handlerTakesTheEdges();
        handlerMakesTheKeyUnknown();
        handlerWithoutSuchARevision();
        handlerWithoutSuchALength();
        takeOfJust32();
        takeOfUpTo64();
        takeAndTheKey();
        takeOfAnotherWhat();
        takeOfNotSoManyBytes();
        enterForPasswordsAtTheEdges();
        enterMakesTheKeyUnknown();
        enterOfAnotherWhat();
        openByPasswordsAtTheEdges();
        openByNeither();
        openByOneThatIsBoth();
        openForAnEmptyPassword();
        keyWithoutSuchAByte();
        keyThatIsUnknown();
        entryOfAnotherWhat();
        entryWithoutSuchAByte();
        Check.end();
    }

    private static Sentence ofHandler() {
        return Sentence.ofPromise(5, "The handler's REVISION, LENGTH, PERMISSIONS, and whether DATA are left out; "
                + "the KEY is unknown then.");
    }

    private static void handlerTakesTheEdges() {
        Sentence s = ofHandler();
        int[][] edges = {{2, 5}, {3, 5}, {3, 6}, {3, 15}, {3, 16}, {4, 5}, {4, 6}, {4, 15}, {4, 16}};
        int[] permissions = {0, 1, -1, 255, 256, 0x01020384, LOWEST, HIGHEST};
        for (int[] e : edges) {
            for (int i = 0; i < 2 * permissions.length; i++) {
                String what = "handler(" + e[0] + ", " + e[1] + ", " + permissions[i / 2] + ", " + (i % 2 == 1) + ")";
                Locked both = new Locked();
                both.handler(e[0], e[1], permissions[i / 2], i % 2 == 1);
                both.enter(1);
                s.same(what + " and its user entry", Sheets.entry(both.x, 1), both.model.user);
                s.same(what + " and open()", both.open(new byte[0]), 1);
                s.same(what + " and the key", Sheets.key(both.x), both.model.key);
                s.same(what + " and the key's bytes", Sheets.key(both.x).length, e[1]);
            }
        }
    }

    private static void handlerMakesTheKeyUnknown() {
        Sentence s = ofHandler();
        Locked both = Locked.opened(4, 11);
        both.x.handler(4, 11, Locked.PERMISSIONS, false);
        s.same("key(0), though nothing is another", both.x.key(0), SheetKeys.NONE);
        s.same("the owner entry stays", Sheets.entry(both.x, 0), both.model.owner);
        s.same("the user entry stays", Sheets.entry(both.x, 1), both.model.user);
        s.same("the row stays", Sheets.row(both.x), Locked.USERS);
        s.same("open()", both.x.open(), 1);
        s.same("the key is back", Sheets.key(both.x), both.model.key);
        s.idle("handler(..) while the key is unknown", 0, () -> Locked.keyless(20),
                x -> Sheets.handler(x, 4, 11, Locked.PERMISSIONS, false));
    }

    private static void refusedHandler(Sentence s, int revision, int length) {
        String call = "handler(" + revision + ", " + length + ", 77, true)";
        s.refused(call, IllegalArgumentException.class, () -> Locked.full(6),
                x -> Sheets.handler(x, revision, length, 77, true));
        s.refused(call + " of a new object", IllegalArgumentException.class, SheetKeys::new,
                x -> Sheets.handler(x, revision, length, 77, true));
    }

    private static void handlerWithoutSuchARevision() {
        Sentence s = Sentence.ofPromise(5, "IllegalArgument: there is no such REVISION, or LENGTH for it.");
        int[] none = {1, 5, 0, 6, -1, -2, 16, LOWEST, HIGHEST};
        for (int revision : none) {
            refusedHandler(s, revision, 5);
            refusedHandler(s, revision, 16);
            refusedHandler(s, revision, 17);
        }
    }

    private static void handlerWithoutSuchALength() {
        Sentence s = Sentence.ofPromise(5, "IllegalArgument: there is no such REVISION, or LENGTH for it.");
        int[] none = {4, 17, 0, 1, 18, 32, 40, 128, -1, -5, LOWEST, HIGHEST};
        for (int length : none) {
            refusedHandler(s, 2, length);
            refusedHandler(s, 3, length);
            refusedHandler(s, 4, length);
        }
        for (int length = 6; length <= 16; length++) {
            refusedHandler(s, 2, length);
        }
    }

    private static Sentence ofTake() {
        return Sentence.ofPromise(6, "The row (it stays) is: what = 0 the OWNER ENTRY, 1 the USER ENTRY (32 bytes "
                + "each), 2 the NUMBER, 3 the owner's password, 4 the user's (up to 64); how many bytes.");
    }

    private static void takeOfJust32() {
        Sentence s = ofTake();
        byte[] bytes = Sheets.some(32, 2);
        for (int what = 0; what <= 1; what++) {
            SheetKeys x = new SheetKeys();
            Sheets.load(x, bytes);
            s.same("take(" + what + ") of 32", x.take(what), 32);
            s.same("the entry after take(" + what + ")", Sheets.entry(x, what), bytes);
            s.same("the other entry after take(" + what + ")", Sheets.entry(x, 1 - what), new byte[32]);
            s.same("the row stays after take(" + what + ")", Sheets.row(x), bytes);
            x.put(31, 0);
            s.same("the entry is not the row", Sheets.entry(x, what), bytes);
        }
    }

    private static void takeOfUpTo64() {
        Sentence s = ofTake();
        int[] lengths = {0, 1, 31, 32, 33, 63, 64};
        for (int many : lengths) {
            for (int what = 2; what <= 4; what++) {
                String call = "take(" + what + ") of " + many;
                Locked both = Locked.opened(3, 16);
                both.load(Sheets.some(many, 5));
                both.model.take(what);
                s.same(call, both.x.take(what), many);
                s.same("the row stays after " + call, Sheets.row(both.x), Sheets.some(many, 5));
                both.enter(0);
                both.enter(1);
                s.same("the owner entry after " + call, Sheets.entry(both.x, 0), both.model.owner);
                s.same("the user entry after " + call, Sheets.entry(both.x, 1), both.model.user);
            }
        }
        for (int what = 2; what <= 4; what++) {
            Locked both = new Locked();
            both.take(what, Sheets.some(64, 5));
            both.take(what, new byte[0]);
            both.enter(0);
            both.enter(1);
            s.same("the owner entry, 64 bytes and then none told of " + what,
                    Sheets.entry(both.x, 0), both.model.owner);
            s.same("the user entry, 64 bytes and then none told of " + what, Sheets.entry(both.x, 1), both.model.user);
        }
    }

    private static void takeAndTheKey() {
        Sentence s = Sentence.ofPromise(6, "For 0 to 2 the KEY is unknown then.");
        byte[][] same = new byte[5][];
        Locked told = Locked.opened(3, 16);
        same[0] = told.model.owner;
        same[1] = told.model.user;
        same[2] = Locked.NUMBER;
        same[3] = Locked.OWNERS;
        same[4] = Locked.USERS;
        for (int what = 0; what <= 4; what++) {
            byte[] due = what <= 2 ? new byte[0] : told.model.key;
            Locked another = Locked.opened(3, 16);
            another.take(what, Sheets.some(32, 7));
            s.same("the key after take(" + what + ") of another row", Sheets.key(another.x), due);
            Locked again = Locked.opened(3, 16);
            again.take(what, same[what]);
            s.same("the key after take(" + what + ") of the same again", Sheets.key(again.x), due);
        }
    }

    private static void takeOfAnotherWhat() {
        Sentence s = Sentence.ofPromise(6, "IllegalArgument: another what.");
        int[] another = {-1, 5, 6, 32, 64, LOWEST, HIGHEST};
        int[] lengths = {0, 32, 64, 65};
        for (int what : another) {
            for (int many : lengths) {
                s.refused("take(" + what + ") of " + many, IllegalArgumentException.class,
                        () -> Locked.full(many), x -> x.take(what));
            }
        }
    }

    private static void takeOfNotSoManyBytes() {
        Sentence s = Sentence.ofPromise(6, "IllegalState: it has not so many bytes (for 0 and 1 just 32).");
        int[] not32 = {0, 1, 16, 31, 33, 63, 64, 65, 100};
        for (int many : not32) {
            for (int what = 0; what <= 1; what++) {
                int w = what;
                s.refused("take(" + w + ") of " + many, IllegalStateException.class,
                        () -> Locked.full(many), x -> x.take(w));
            }
        }
        int[] over64 = {65, 66, 96, 128, 200};
        for (int many : over64) {
            for (int what = 2; what <= 4; what++) {
                int w = what;
                s.refused("take(" + w + ") of " + many, IllegalStateException.class,
                        () -> Locked.full(many), x -> x.take(w));
            }
        }
    }

    private static Sentence ofEnter() {
        return Sentence.ofPromise(7, "The OWNER ENTRY is made for both passwords (what = 0), or the USER ENTRY for "
                + "the user's KEY (1); the KEY is unknown then.");
    }

    private static void enterForPasswordsAtTheEdges() {
        Sentence s = ofEnter();
        SheetKeys x = new SheetKeys();
        x.handler(2, 5, -4, false);
        x.enter(0);
        s.same("revision 2, empty passwords, enter(0)", Sheets.entry(x, 0),
                Sheets.hex("2055c756c72e1ad702608e8196acad447ad32d17cff583235f6dd15fed7dab67"));
        int[] lengths = {0, 1, 31, 32, 33, 64};
        for (int revision = 2; revision <= 4; revision++) {
            for (int owners : lengths) {
                for (int users : lengths) {
                    Locked both = Locked.by(revision, 5, Sheets.some(owners, 2), Sheets.some(users, 3));
                    String what = "revision " + revision + ", passwords of " + owners + " and " + users;
                    s.same(what + ", enter(0)", Sheets.entry(both.x, 0), both.model.owner);
                    s.same(what + ", enter(1)", Sheets.entry(both.x, 1), both.model.user);
                }
            }
        }
    }

    private static void enterMakesTheKeyUnknown() {
        Sentence s = ofEnter();
        for (int what = 0; what <= 1; what++) {
            Locked both = Locked.opened(4, 16);
            both.x.enter(what);
            s.same("key(0) after enter(" + what + "), though the entry is the same", both.x.key(0), SheetKeys.NONE);
            s.same("the owner entry is the same", Sheets.entry(both.x, 0), both.model.owner);
            s.same("the user entry is the same", Sheets.entry(both.x, 1), both.model.user);
            s.same("the row stays", Sheets.row(both.x), Locked.USERS);
            s.same("open() after enter(" + what + ")", both.x.open(), 1);
            s.same("the key is back after enter(" + what + ")", Sheets.key(both.x), both.model.key);
        }
    }

    private static void enterOfAnotherWhat() {
        Sentence s = Sentence.ofPromise(7, "IllegalArgument: another what.");
        int[] another = {-1, 2, 3, 4, 5, LOWEST, HIGHEST};
        for (int what : another) {
            s.refused("enter(" + what + ")", IllegalArgumentException.class,
                    () -> Locked.full(20), x -> Sheets.enter(x, what));
            s.refused("enter(" + what + ") of a new object", IllegalArgumentException.class,
                    SheetKeys::new, x -> Sheets.enter(x, what));
        }
    }

    private static Sentence ofOpen() {
        return Sentence.ofPromise(8, "The row as a password: 1 if it is the USER'S, else 2 if it is the OWNER'S: the "
                + "KEY is then that of it (2: of the password that came of the OWNER ENTRY); 0 (and the KEY as it was) "
                + "if it is neither.");
    }

    private static void openByPasswordsAtTheEdges() {
        Sentence s = ofOpen();
        byte[] owners = Sheets.some(64, 2);
        byte[] users = Sheets.some(64, 3);
        int[] enough = {32, 33, 63, 64};
        for (int revision = 2; revision <= 4; revision++) {
            String by = "revision " + revision + ", ";
            for (int many : enough) {
                Locked both = Locked.by(revision, 5, owners, users);
                s.same(by + many + " bytes of the owner's", both.open(Arrays.copyOf(owners, many)), 2);
                s.same(by + "the key by the owner's", Sheets.key(both.x), both.model.keyOf(users));
                s.same(by + many + " bytes of the user's", both.open(Arrays.copyOf(users, many)), 1);
                s.same(by + "the key by the user's", Sheets.key(both.x), both.model.keyOf(users));
                s.same(by + "the row stays", Sheets.row(both.x), Arrays.copyOf(users, many));
                s.same(by + "no result comes of it", both.x.count(0), 0);
            }
            Locked both = Locked.by(revision, 5, owners, users);
            s.same(by + "31 bytes of the user's", both.open(Arrays.copyOf(users, 31)), 0);
            s.same(by + "31 bytes of the owner's", both.open(Arrays.copyOf(owners, 31)), 0);
            s.same(by + "more bytes than a password can have",
                    both.open(Model.joined(users, Sheets.some(1000, 1))), 1);
            s.same(by + "more bytes than an owner's can have",
                    both.open(Model.joined(owners, Sheets.some(1000, 1))), 2);
        }
    }

    private static void openByNeither() {
        Sentence s = ofOpen();
        int[] lengths = {0, 1, 31, 32, 33, 64, 65, 200};
        for (int many : lengths) {
            s.idle("open() by " + many + " wrong bytes, the key being known", 0,
                    () -> Locked.full(many), SheetKeys::open);
            s.idle("open() by " + many + " wrong bytes, the key being unknown", 0,
                    () -> Locked.keyless(many), SheetKeys::open);
        }
        SheetKeys x = Locked.full(20);
        byte[] key = Sheets.key(x);
        s.same("open() by a wrong row", x.open(), 0);
        s.same("the key as it was", Sheets.key(x), key);
        s.same("that has its bytes", key.length, 11);
        SheetKeys y = Locked.keyless(20);
        s.same("open() by a wrong row", y.open(), 0);
        s.same("the key is unknown as it was", y.key(0), SheetKeys.NONE);
    }

    private static void openByOneThatIsBoth() {
        Sentence s = ofOpen();
        byte[] one = Sheets.text("both");
        for (int revision = 2; revision <= 4; revision++) {
            Locked both = Locked.by(revision, 5, one, one);
            s.same("a password of both, revision " + revision, both.open(one), 1);
            s.same("its key, revision " + revision, Sheets.key(both.x), both.model.keyOf(one));
        }
    }

    private static void openForAnEmptyPassword() {
        Sentence s = ofOpen();
        for (int revision = 2; revision <= 4; revision++) {
            Locked both = Locked.by(revision, 5, Locked.OWNERS, new byte[0]);
            s.same("the owner's, the user's being empty", both.open(Locked.OWNERS), 2);
            s.same("its key", Sheets.key(both.x), both.model.keyOf(new byte[0]));
            s.same("an empty row", both.open(new byte[0]), 1);
            s.same("THE PAD for an empty row", both.open(Model.PAD), 1);
            s.same("but not its first byte alone", both.open(Arrays.copyOf(Model.PAD, 1)), 0);
            Locked other = Locked.by(revision, 5, new byte[0], Locked.USERS);
            s.same("an empty row, the owner's being empty", other.open(new byte[0]), 2);
            s.same("its key", Sheets.key(other.x), other.model.keyOf(Locked.USERS));
        }
    }

    private static Sentence ofKey() {
        return Sentence.ofPromise(9, "Byte i of the KEY; NONE if there is none such, or it is unknown.");
    }

    private static void keyWithoutSuchAByte() {
        Sentence s = ofKey();
        for (int length = 5; length <= 16; length++) {
            Locked both = Locked.opened(3, length);
            byte[] due = both.model.keyOf(Locked.USERS);
            s.same("key(0) of " + length, both.x.key(0), due[0] & 255);
            s.same("the last byte of " + length, both.x.key(length - 1), due[length - 1] & 255);
            int[] none = {length, length + 1, 16, 17, 32, -1, -length, LOWEST, HIGHEST};
            for (int i : none) {
                s.same("key(" + i + ") of " + length, both.x.key(i), SheetKeys.NONE);
            }
            both.handler(2, 5, 0, false);
            both.enter(1);
            both.open(Locked.USERS);
            s.same("key(4) of 5, after one of " + length, both.x.key(4), both.model.key[4] & 255);
            s.same("key(5) of 5, after one of " + length, both.x.key(5), SheetKeys.NONE);
        }
    }

    private static void keyThatIsUnknown() {
        Sentence s = ofKey();
        int[] any = {0, 1, 10, 11, 15, 16, -1, LOWEST, HIGHEST};
        for (int i : any) {
            s.idle("key(" + i + ") while it is unknown", SheetKeys.NONE, () -> Locked.keyless(20), x -> x.key(i));
        }
    }

    private static Sentence ofEntry() {
        return Sentence.ofPromise(15, "Byte i of the OWNER ENTRY (what = 0) or the USER ENTRY (1); NONE for another "
                + "what, or if there is none such.");
    }

    private static void entryOfAnotherWhat() {
        Sentence s = ofEntry();
        int[] another = {-1, 2, 3, 4, LOWEST, HIGHEST};
        int[] any = {0, 31, 32, -1};
        for (int what : another) {
            for (int i : any) {
                s.idle("entry(" + what + ", " + i + ")", SheetKeys.NONE, () -> Locked.full(32), x -> x.entry(what, i));
            }
        }
    }

    private static void entryWithoutSuchAByte() {
        Sentence s = ofEntry();
        int[] none = {-1, 32, 33, 64, 255, LOWEST, HIGHEST};
        Locked both = Locked.opened(2, 5);
        for (int what = 0; what <= 1; what++) {
            int w = what;
            for (int i : none) {
                s.idle("entry(" + w + ", " + i + ")", SheetKeys.NONE, () -> Locked.full(64), x -> x.entry(w, i));
            }
            byte[] due = what == 0 ? both.model.owner : both.model.user;
            s.same("entry(" + what + ", 0)", both.x.entry(what, 0), due[0] & 255);
            s.same("entry(" + what + ", 31)", both.x.entry(what, 31), due[31] & 255);
        }
    }
}
