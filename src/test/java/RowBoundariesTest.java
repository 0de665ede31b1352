import java.util.Arrays;

/** The boundary cases of the row and the result, sentence by sentence: promises 1 to 4, 10, 13, 14 and 16. */
public final class RowBoundariesTest {
    private static final int LOWEST = Integer.MIN_VALUE;
    private static final int HIGHEST = Integer.MAX_VALUE;
    private static final byte[] DIGEST_OF_NOTHING = Sheets.hex("d41d8cd98f00b204e9800998ecf8427e");

    public static void main(String[] args) {
        aNewRowIsEmpty();
        aNewHandler();
        newEntriesAreAllZero();
        aNewObjectHasNoNumberAndEmptyPasswords();
        aNewObjectHasNoKey();
        aNewObjectHasNoResult();
        feedTakesWholeNumbers();
        feedFillsAsFarAs512CallsGo();
        putAtBothEndsOfTheRow();
        putWithoutSuchAByte();
        putOfNoByte();
        cutAtBothEndsOfTheRow();
        cutBelowZero();
        digestOfRowsAtTheEdges();
        countOfAnotherWhat();
        countOfNothing();
        atWithoutSuchAByte();
        keepOfNoResult();
        keepOfAnEmptyResult();
        keepOfLongerAndShorterResults();
        Check.end();
    }

    private static Sentence ofANewObject() {
        return Sentence.ofPromise(1, "An empty row; REVISION 3, LENGTH 16, PERMISSIONS -4, DATA not left out; "
                + "both entries all 0, no NUMBER, both passwords empty; no KEY, no result.");
    }

    private static void aNewRowIsEmpty() {
        Sentence s = ofANewObject();
        s.same("count(1)", new SheetKeys().count(1), 0);
        s.same("cut(0)", new SheetKeys().cut(0), 0);
        s.same("the first feed", new SheetKeys().feed(1, 2, 3, 4, 5), 20);
        s.refused("put(0, 0)", IndexOutOfBoundsException.class, SheetKeys::new, x -> x.put(0, 0));
        SheetKeys x = new SheetKeys();
        x.digest();
        s.same("digest()", Sheets.result(x), DIGEST_OF_NOTHING);
    }

    private static boolean isAsNewBy(int revision, int length, int permissions, boolean leftOut) {
        SheetKeys x = new SheetKeys();
        x.handler(revision, length, permissions, leftOut);
        return Sheets.look(x).equals(Sheets.look(new SheetKeys()));
    }

    private static void aNewHandler() {
        Sentence s = ofANewObject();
        s.same("handler(3, 16, -4, false) changes nothing", isAsNewBy(3, 16, -4, false) ? 1 : 0, 1);
        s.same("handler(2, 5, -4, false) does", isAsNewBy(2, 5, -4, false) ? 1 : 0, 0);
        s.same("handler(3, 15, -4, false) does", isAsNewBy(3, 15, -4, false) ? 1 : 0, 0);
        s.same("handler(3, 16, -1, false) does", isAsNewBy(3, 16, -1, false) ? 1 : 0, 0);
        s.same("handler(4, 16, -4, true) does", isAsNewBy(4, 16, -4, true) ? 1 : 0, 0);
        SheetKeys x = new SheetKeys();
        x.enter(1);
        x.open();
        s.same("the key has 16 bytes", Sheets.key(x).length, 16);
    }

    private static void newEntriesAreAllZero() {
        Sentence s = ofANewObject();
        s.same("the owner entry", Sheets.entry(new SheetKeys(), 0), new byte[32]);
        s.same("the user entry", Sheets.entry(new SheetKeys(), 1), new byte[32]);
    }

    private static void aNewObjectHasNoNumberAndEmptyPasswords() {
        Sentence s = ofANewObject();
        SheetKeys x = new SheetKeys();
        Model model = new Model();
        x.enter(0);
        model.enter(0);
        s.same("the owner entry for empty passwords", Sheets.entry(x, 0),
                Sheets.hex("36451bd39d753b7c1d10922c28e6665aa4f3353fb0348b536893e3b1db5c579b"));
        s.same("the owner entry by the model", Sheets.entry(x, 0), model.owner);
        x.enter(1);
        model.enter(1);
        s.same("the user entry without a number", Sheets.entry(x, 1), model.user);
        s.same("open() by the empty row", x.open(), 1);
        for (int what = 2; what <= 4; what++) {
            SheetKeys told = new SheetKeys();
            told.take(what);
            told.enter(0);
            told.enter(1);
            s.same("the same user entry if " + what + " is told to be empty", Sheets.entry(told, 1), model.user);
        }
    }

    private static void aNewObjectHasNoKey() {
        Sentence s = ofANewObject();
        for (int i = -1; i <= 16; i++) {
            s.same("key(" + i + ")", new SheetKeys().key(i), SheetKeys.NONE);
        }
        s.idle("open() by no password, the user entry being all 0", 0, SheetKeys::new, SheetKeys::open);
    }

    private static void aNewObjectHasNoResult() {
        Sentence s = ofANewObject();
        s.same("count(0)", new SheetKeys().count(0), 0);
        for (int i = -1; i <= 16; i++) {
            s.same("at(" + i + ")", new SheetKeys().at(i), SheetKeys.NONE);
        }
        s.idle("keep()", 0, SheetKeys::new, SheetKeys::keep);
    }

    private static void feedTakesWholeNumbers() {
        Sentence s = Sentence.ofPromise(2, "Twenty bytes more in the row, the highest of a first: how many it has; "
                + "NONE (and nothing happens) if there would be more than 16,384.");
        SheetKeys x = new SheetKeys();
        s.same("feed of the lowest and the highest", x.feed(LOWEST, HIGHEST, -1, 0, 1), 20);
        s.same("row", Sheets.row(x), Sheets.hex("800000007fffffffffffffff0000000000000001"));
        x.cut(1);
        s.same("feed behind a single byte", x.feed(0xfffefdfc, 0x80, 0x8000, 0x800000, -256), 21);
        s.same("row", Sheets.row(x), Sheets.hex("80fffefdfc000000800000800000800000ffffff00"));
    }

    private static void feedFillsAsFarAs512CallsGo() {
        Sentence s = Sentence.ofPromise(2, "Twenty bytes more in the row, the highest of a first: how many it has; "
                + "NONE (and nothing happens) if there would be more than 16,384.");
        SheetKeys x = new SheetKeys();
        for (int many = 20; many <= 10220; many += 20) {
            s.same("feed to " + many, x.feed(many, 0, 0, 0, many), many);
        }
        s.same("the last byte", x.put(10219, 0), 10220 & 255);
    }

    private static void putAtBothEndsOfTheRow() {
        Sentence s = Sentence.ofPromise(3, "A byte of the row becomes b: what it was.");
        SheetKeys x = new SheetKeys();
        x.feed(0xfe000000, 0, 0, 0, 0x7f);
        s.same("put(0, 255)", x.put(0, 255), 254);
        s.same("put(0, 0)", x.put(0, 0), 255);
        s.same("put(0, 128)", x.put(0, 128), 0);
        s.same("put(19, 255)", x.put(19, 255), 127);
        s.same("put(19, 0)", x.put(19, 0), 255);
        s.same("row", Sheets.row(x), Sheets.hex("8000000000000000000000000000000000000000"));
        x.cut(1);
        s.same("put(0, 1) in a row of one byte", x.put(0, 1), 128);
        s.same("how many it has", x.count(1), 1);
    }

    private static void putWithoutSuchAByte() {
        Sentence s = Sentence.ofPromise(3, "IndexOutOfBounds: there is none such.");
        int[] none = {-1, 20, 21, 39, 255, 16383, 16384, LOWEST, HIGHEST};
        for (int i : none) {
            s.refused("put(" + i + ", 0) with 20 bytes", IndexOutOfBoundsException.class,
                    () -> Locked.full(20), x -> x.put(i, 0));
            s.refused("put(" + i + ", 256) with 20 bytes, where b is wrong too", IndexOutOfBoundsException.class,
                    () -> Locked.full(20), x -> x.put(i, 256));
        }
        s.refused("put(0, 0) with no bytes", IndexOutOfBoundsException.class, () -> Locked.full(0), x -> x.put(0, 0));
        s.refused("put(0, -1) with no bytes", IndexOutOfBoundsException.class, () -> Locked.full(0), x -> x.put(0, -1));
        s.refused("put(5, 0) of a byte cut away", IndexOutOfBoundsException.class, () -> {
            SheetKeys x = Locked.full(20);
            x.cut(5);
            return x;
        }, x -> x.put(5, 0));
    }

    private static void putOfNoByte() {
        Sentence s = Sentence.ofPromise(3, "IllegalArgument: b is not 0 .. 255.");
        int[] none = {-1, 256, 257, 511, -128, -256, LOWEST, HIGHEST};
        for (int b : none) {
            s.refused("put(0, " + b + ")", IllegalArgumentException.class, () -> Locked.full(20), x -> x.put(0, b));
            s.refused("put(19, " + b + ")", IllegalArgumentException.class, () -> Locked.full(20), x -> x.put(19, b));
        }
    }

    private static void cutAtBothEndsOfTheRow() {
        Sentence s = Sentence.ofPromise(4, "Only the first bytes of the row are left: how many are gone.");
        int[] notLess = {20, 21, 16384, 16385, HIGHEST};
        for (int many : notLess) {
            s.idle("cut(" + many + ") of 20", 0, () -> Locked.full(20), x -> x.cut(many));
        }
        int[] any = {0, 1, HIGHEST};
        for (int many : any) {
            s.idle("cut(" + many + ") of none", 0, () -> Locked.full(0), x -> x.cut(many));
        }
        for (int many = 0; many < 20; many++) {
            SheetKeys x = Locked.full(20);
            s.same("cut(" + many + ") of 20", x.cut(many), 20 - many);
            s.same("the row after cut(" + many + ")", Sheets.row(x), Arrays.copyOf(Sheets.some(20, 1), many));
            s.same("the result's bytes after cut(" + many + ")", x.count(0), 16);
        }
        SheetKeys x = Locked.full(20);
        x.cut(0);
        s.same("feed after cut(0)", x.feed(0, 0, 0, 0, 0), 20);
        s.same("what was cut away does not come back", Sheets.row(x), new byte[20]);
    }

    private static void cutBelowZero() {
        Sentence s = Sentence.ofPromise(4, "IllegalArgument: many is below 0.");
        int[] below = {-1, -2, -20, LOWEST};
        for (int many : below) {
            s.refused("cut(" + many + ") of 20", IllegalArgumentException.class,
                    () -> Locked.full(20), x -> x.cut(many));
            s.refused("cut(" + many + ") of none", IllegalArgumentException.class, SheetKeys::new, x -> x.cut(many));
        }
    }

    private static void digestOfRowsAtTheEdges() {
        Sentence s = Sentence.ofPromise(10, "The result is the row's DIGEST.");
        SheetKeys x = Locked.full(0);
        x.digest();
        s.same("of an empty row", Sheets.result(x), DIGEST_OF_NOTHING);
        s.same("no byte behind", x.at(16), SheetKeys.NONE);
        s.same("the row stays empty", x.count(1), 0);
        SheetKeys y = Locked.full(64);
        y.undo(0, 0, 0);
        y.digest();
        s.same("how many bytes, after a longer result", y.count(0), 16);
        s.same("no byte of the longer result", y.at(16), SheetKeys.NONE);
        s.same("the row stays", Sheets.row(y), Sheets.some(64, 1));
        y.digest();
        s.same("the same once more", Sheets.result(y), Model.digestOf(Sheets.some(64, 1)));
        s.same("without a key", keylessDigest(), Model.digestOf(Sheets.some(20, 1)));
    }

    private static byte[] keylessDigest() {
        SheetKeys x = Locked.keyless(20);
        x.digest();
        return Sheets.result(x);
    }

    private static void countOfAnotherWhat() {
        Sentence s = Sentence.ofPromise(13,
                "What = 0: how many bytes the result has, 1: the row; NONE for another what.");
        int[] another = {-1, 2, 3, 16, LOWEST, HIGHEST};
        for (int what : another) {
            s.idle("count(" + what + ")", SheetKeys.NONE, () -> Locked.full(20), x -> x.count(what));
            s.idle("count(" + what + ") of a new object", SheetKeys.NONE, SheetKeys::new, x -> x.count(what));
        }
        s.idle("count(0)", 16, () -> Locked.full(20), x -> x.count(0));
        s.idle("count(1)", 20, () -> Locked.full(20), x -> x.count(1));
    }

    private static void countOfNothing() {
        Sentence s = Sentence.ofPromise(13,
                "What = 0: how many bytes the result has, 1: the row; NONE for another what.");
        SheetKeys x = Locked.full(0);
        s.same("count(1) of an empty row", x.count(1), 0);
        s.same("count(0) beside it", x.count(0), 16);
        x.undo(0, 0, 0);
        s.same("count(0) of an empty result", x.count(0), 0);
    }

    private static void atWithoutSuchAByte() {
        Sentence s = Sentence.ofPromise(14, "Byte i of the result; NONE if there is none such.");
        int[] none = {-1, 16, 17, 19, 255, 16383, 16384, LOWEST, HIGHEST};
        for (int i : none) {
            s.idle("at(" + i + ") of 16", SheetKeys.NONE, () -> Locked.full(20), x -> x.at(i));
            s.idle("at(" + i + ") of none", SheetKeys.NONE, SheetKeys::new, x -> x.at(i));
        }
        SheetKeys x = Locked.opened(3, 16).x;
        Sheets.load(x, Sheets.hex("ff0080"));
        x.undo(0, 0, 0);
        s.same("at(0)", x.at(0), 255);
        s.same("at(1)", x.at(1), 0);
        s.same("at(2)", x.at(2), 128);
        s.same("at(3)", x.at(3), SheetKeys.NONE);
        x.cut(2);
        s.same("at(2), the row being cut", x.at(2), 128);
        x.undo(0, 0, 0);
        s.same("at(2), the result being shorter now", x.at(2), SheetKeys.NONE);
        x.cut(0);
        x.undo(0, 0, 0);
        s.same("at(0), the result being empty", x.at(0), SheetKeys.NONE);
    }

    private static Sentence ofKeep() {
        return Sentence.ofPromise(16, "The result becomes the row; how many bytes.");
    }

    private static void keepOfNoResult() {
        Sentence s = ofKeep();
        SheetKeys x = new SheetKeys();
        x.feed(1, 2, 3, 4, 5);
        s.same("keep() without a result", x.keep(), 0);
        s.same("no row then", x.count(1), 0);
        s.same("no result then", x.count(0), 0);
        s.same("feed then", x.feed(1, 2, 3, 4, 5), 20);
    }

    private static void keepOfAnEmptyResult() {
        Sentence s = ofKeep();
        SheetKeys x = Locked.full(0);
        x.undo(0, 0, 0);
        x.feed(1, 2, 3, 4, 5);
        s.same("keep() of an empty result", x.keep(), 0);
        s.same("an empty row then", x.count(1), 0);
    }

    private static void keepOfLongerAndShorterResults() {
        Sentence s = ofKeep();
        byte[] due = Model.digestOf(Sheets.some(20, 1));
        int[] lengths = {0, 1, 15, 16, 17, 60};
        for (int many : lengths) {
            SheetKeys x = Locked.full(20);
            x.digest();
            Sheets.load(x, Sheets.some(many, 3));
            s.same("keep() over a row of " + many, x.keep(), 16);
            s.same("the row", Sheets.row(x), due);
            s.same("the result", Sheets.result(x), due);
            x.put(0, due[0] & 255 ^ 1);
            s.same("the result is not the row", x.at(0), due[0] & 255);
            x.cut(3);
            s.same("keep() again", x.keep(), 16);
            s.same("the row again", Sheets.row(x), due);
        }
    }
}
