import java.util.Arrays;

/** Ordinary inputs, promise by promise; the edges and the wrong inputs are in the tests of the boundaries. */
public final class PromisesTest {
    public static void main(String[] args) {
        aNewObject();
        feed();
        put();
        cut();
        handler();
        take();
        enter();
        open();
        key();
        digest();
        undo();
        undoByItsOwnKey();
        seal();
        sealAndUndo();
        longRows();
        count();
        at();
        entry();
        keep();
        Check.end();
    }

    private static void aNewObject() {
        SheetKeys used = Locked.full(20);
        SheetKeys x = new SheetKeys();
        Check.same("1: another object is used", used.count(0), 16);
        Check.same("1: row", x.count(1), 0);
        Check.same("1: result", x.count(0), 0);
        Check.same("1: key(0)", x.key(0), SheetKeys.NONE);
        Check.same("1: owner entry", Sheets.entry(x, 0), new byte[32]);
        Check.same("1: user entry", Sheets.entry(x, 1), new byte[32]);
        Check.same("1: open()", x.open(), 0);
    }

    private static void feed() {
        SheetKeys x = new SheetKeys();
        Check.same("2: feed", x.feed(0x01020384, 0x85060708, 0x090a0b0c, 0x0d0e0f10, 0x11f21314), 20);
        Check.same("2: row", Sheets.row(x), Sheets.hex("0102038485060708090a0b0c0d0e0f1011f21314"));
        Check.same("2: feed again", x.feed(0x21222324, 0, 1, 2, 3), 40);
        Check.same("2: row", Sheets.row(x), Sheets.hex("0102038485060708090a0b0c0d0e0f1011f21314"
                + "2122232400000000000000010000000200000003"));
        x.cut(3);
        Check.same("2: feed behind a cut", x.feed(1, 2, 3, 4, 5), 23);
        Check.same("2: row", Sheets.row(x), Sheets.hex("0102030000000100000002000000030000000400000005"));
        Check.same("2: no result comes of it", x.count(0), 0);
    }

    private static void put() {
        SheetKeys x = new SheetKeys();
        x.feed(1, 2, 3, 4, 0x050607fe);
        Check.same("3: put(3, 9)", x.put(3, 9), 1);
        Check.same("3: put(3, 200)", x.put(3, 200), 9);
        Check.same("3: put(17, 5)", x.put(17, 5), 6);
        Check.same("3: row", Sheets.row(x), Sheets.hex("000000c8000000020000000300000004050507fe"));
    }

    private static void cut() {
        SheetKeys x = new SheetKeys();
        x.feed(0x01020304, 0x05060708, 3, 4, 5);
        Check.same("4: cut(12)", x.cut(12), 8);
        Check.same("4: cut(6)", x.cut(6), 6);
        Check.same("4: row", Sheets.row(x), Sheets.hex("010203040506"));
    }

    private static void handler() {
        for (int revision = 2; revision <= 4; revision++) {
            for (int length = 5; length <= (revision == 2 ? 5 : 16); length++) {
                Locked both = Locked.opened(revision, length);
                String what = "5: handler(" + revision + ", " + length + ", ..)";
                Check.same(what + " owner entry", Sheets.entry(both.x, 0), both.model.owner);
                Check.same(what + " user entry", Sheets.entry(both.x, 1), both.model.user);
                Check.same(what + " key", Sheets.key(both.x), both.model.key);
                both.handler(revision, length, Locked.PERMISSIONS + 1, false);
                Check.same(what + " key unknown", both.x.key(0), SheetKeys.NONE);
                Check.same(what + " other permissions", both.open(Locked.USERS), 0);
            }
        }
    }

    private static void take() {
        for (int what = 0; what <= 4; what++) {
            Locked both = Locked.opened(4, 16);
            both.take(what, Sheets.some(32, 7));
            Check.same("6: the row stays", Sheets.row(both.x), Sheets.some(32, 7));
            Check.same("6: the owner entry", Sheets.entry(both.x, 0), both.model.owner);
            Check.same("6: the user entry", Sheets.entry(both.x, 1), both.model.user);
            Check.same("6: the key", Sheets.key(both.x), both.model.key);
            both.enter(1);
            Check.same("6: the user entry made after take(" + what + ")", Sheets.entry(both.x, 1), both.model.user);
            both.enter(0);
            Check.same("6: the owner entry made after take(" + what + ")", Sheets.entry(both.x, 0), both.model.owner);
        }
    }

    private static void enter() {
        for (int revision = 2; revision <= 4; revision++) {
            Locked both = Locked.by(revision, 5, Sheets.text("o"), Sheets.text("u"));
            Check.same("7: owner entry of " + revision, Sheets.entry(both.x, 0), both.model.owner);
            Check.same("7: user entry of " + revision, Sheets.entry(both.x, 1), both.model.user);
            Check.same("7: the row stays", Sheets.row(both.x), Sheets.text("u"));
            Check.same("7: open()", both.x.open(), 1);
            both.enter(1);
            Check.same("7: the key is unknown", both.x.key(0), SheetKeys.NONE);
        }
    }

    private static void open() {
        for (int revision = 2; revision <= 4; revision++) {
            Locked both = Locked.by(revision, 5, Locked.OWNERS, Locked.USERS);
            byte[] key = both.model.keyOf(Locked.USERS);
            Check.same("8: neither", both.open(Sheets.text("none")), 0);
            Check.same("8: no key", both.x.key(0), SheetKeys.NONE);
            Check.same("8: the owner's", both.open(Locked.OWNERS), 2);
            Check.same("8: its key", Sheets.key(both.x), key);
            both.handler(revision, 5, Locked.PERMISSIONS, false);
            Check.same("8: the user's", both.open(Locked.USERS), 1);
            Check.same("8: its key", Sheets.key(both.x), key);
            Check.same("8: neither", both.open(Sheets.text("Reader")), 0);
            Check.same("8: the key as it was", Sheets.key(both.x), key);
        }
    }

    private static void key() {
        Locked both = Locked.opened(3, 16);
        byte[] due = both.model.keyOf(Locked.USERS);
        for (int i = 0; i < 16; i++) {
            Check.same("9: key(" + i + ")", both.x.key(i), due[i] & 255);
        }
    }

    private static void digest() {
        String[][] known = {
            {"a", "0cc175b9c0f1b6a831c399e269772661"},
            {"abc", "900150983cd24fb0d6963f7d28e17f72"},
            {"message digest", "f96b697d7cb7938d525a2f31aaf161d0"},
            {"abcdefghijklmnopqrstuvwxyz", "c3fcd3d76192e4007dfb496cca67e13b"},
            {"12345678901234567890123456789012345678901234567890123456789012345678901234567890",
                "57edf4a22be3c955ac49da2e2107b67a"}
        };
        for (String[] k : known) {
            SheetKeys x = new SheetKeys();
            Sheets.load(x, Sheets.text(k[0]));
            x.digest();
            Check.same("10: of " + k[0], Sheets.result(x), Sheets.hex(k[1]));
            Check.same("10: the row stays", Sheets.row(x), Sheets.text(k[0]));
        }
    }

    private static void undo() {
        for (int method = 0; method <= 2; method++) {
            Locked both = Locked.opened(4, 16);
            both.load(Sheets.some(50, 6));
            both.model.seal(20, 1, method, 3, 4);
            both.load(both.model.result);
            Check.same("11: undo by " + method, both.x.undo(20, 1, method), 50);
            Check.same("11: undone by " + method, Sheets.result(both.x), Sheets.some(50, 6));
            Check.same("11: the row stays", Sheets.row(both.x), both.model.row);
        }
    }

    /** Undoing takes the key of the object that it is told, whatever was sealed before. */
    private static void undoByItsOwnKey() {
        int[][] others = {{21, 1}, {20, 0}, {20, 257}, {20 + 256, 1}, {20 + 65536, 1}};
        for (int method = 1; method <= 2; method++) {
            for (int[] o : others) {
                Locked both = Locked.opened(4, 16);
                byte[] plain = Sheets.some(50, 6);
                both.load(plain);
                both.model.seal(20, 1, method, 3, 4);
                both.load(both.model.result);
                both.x.seal(o[0], o[1], method, 5, 6);
                Check.same("11: undo after another seal", both.x.undo(20, 1, method), 50);
                Check.same("11: undone after another seal", Sheets.result(both.x), plain);
                both.model.result = plain;
                Check.same("11: undo by another key",
                        both.x.undo(o[0], o[1], method), both.model.undo(o[0], o[1], method));
                Check.same("11: undone by another key", Sheets.result(both.x), both.model.result);
            }
        }
    }

    private static void seal() {
        Locked both = Locked.opened(4, 16);
        both.load(Sheets.some(10, 5));
        Check.same("12: by blocks", both.x.seal(3, 2, 2, 0x01020304, 0x85868788), 32);
        Check.same("12: what goes before", Arrays.copyOf(Sheets.result(both.x), 16),
                Sheets.hex("0102030485868788fefdfcfb7a797877"));
        Check.same("12: as they are", both.x.seal(3, 2, 0, 5, 6), 10);
        Check.same("12: as they are", Sheets.result(both.x), both.model.row);
        Check.same("12: by the stream", both.x.seal(3, 2, 1, 5, 6), 10);
        byte[] sealed = Sheets.result(both.x);
        both.x.seal(3, 2, 1, 7, 8);
        Check.same("12: the stream does not use what is told", Sheets.result(both.x), sealed);
        Check.same("12: the row stays", Sheets.row(both.x), Sheets.some(10, 5));
    }

    private static void sealAndUndo() {
        int[] numbers = {0, 1, 255, 256, 0x123456, 8388607};
        int[] generations = {0, 1, 255, 256, 65535};
        for (int i = 0; i < 360; i++) {
            int number = numbers[i % 6];
            int generation = generations[i % 5];
            int method = i % 3;
            Locked both = Locked.opened(4, 5 + i % 12);
            both.load(Sheets.some(i % 100, i));
            String what = "11, 12: " + number + ", " + generation + ", " + method;
            Check.same(what + " seal", both.x.seal(number, generation, method, i, -i),
                    both.model.seal(number, generation, method, i, -i));
            Check.same(what + " sealed", Sheets.result(both.x), both.model.result);
            both.x.keep();
            Check.same(what + " undo", both.x.undo(number, generation, method), i % 100);
            Check.same(what + " undone", Sheets.result(both.x), Sheets.some(i % 100, i));
        }
    }

    /** As many bytes as a run can feed; of the result only some can be looked at within 512 calls. */
    private static void longRows() {
        byte[] many = Sheets.some(8000, 4);
        for (int method = 0; method <= 2; method++) {
            Locked both = Locked.opened(4, 16);
            both.load(many);
            Check.same("12: many bytes", both.x.seal(3, 2, method, 1, 2), both.model.seal(3, 2, method, 1, 2));
            for (int i = both.model.result.length - 20; i < both.model.result.length; i++) {
                Check.same("12: byte " + i + " of many", both.x.at(i), both.model.at(i));
            }
            both.x.keep();
            Check.same("11: many bytes", both.x.undo(3, 2, method), 8000);
            both.x.keep();
            both.x.digest();
            Check.same("11: many bytes undone", Sheets.result(both.x), Model.digestOf(many));
        }
    }

    private static void count() {
        SheetKeys x = Locked.full(20);
        Check.same("13: the result", x.count(0), 16);
        Check.same("13: the row", x.count(1), 20);
        x.cut(7);
        x.undo(0, 0, 0);
        Check.same("13: the result", x.count(0), 7);
        Check.same("13: the row", x.count(1), 7);
    }

    private static void at() {
        SheetKeys x = Locked.full(20);
        x.undo(0, 0, 0);
        byte[] due = Sheets.some(20, 1);
        for (int i = 0; i < 20; i++) {
            Check.same("14: at(" + i + ")", x.at(i), due[i] & 255);
        }
        x.put(0, 77);
        Check.same("14: the result is not the row", x.at(0), due[0] & 255);
    }

    private static void entry() {
        Locked both = new Locked();
        both.take(0, Sheets.some(32, 1));
        both.take(1, Sheets.some(32, 2));
        for (int i = 0; i < 32; i++) {
            Check.same("15: entry(0, " + i + ")", both.x.entry(0, i), both.model.owner[i] & 255);
            Check.same("15: entry(1, " + i + ")", both.x.entry(1, i), both.model.user[i] & 255);
        }
    }

    private static void keep() {
        SheetKeys x = new SheetKeys();
        Sheets.load(x, Sheets.text("abc"));
        x.digest();
        Check.same("16: keep()", x.keep(), 16);
        Check.same("16: the row", Sheets.row(x), Sheets.hex("900150983cd24fb0d6963f7d28e17f72"));
        Check.same("16: the result stays", Sheets.result(x), Sheets.hex("900150983cd24fb0d6963f7d28e17f72"));
    }
}
