import java.util.Arrays;

/**
 * The edges at 16,384 bytes (promises 2, 11, 12, 16). No run of 512 calls gets there, so the document promises
 * nothing of these calls by their number; but the limits are its own, and no call may ever throw by itself.
 */
public final class LimitsTest {
    private static final int MOST = 16384;

    public static void main(String[] args) {
        feedStopsAtTheLimit();
        sealStopsAtTheLimit();
        digestOfTheLongestRow();
        Check.end();
    }

    private static SheetKeys openedOne() {
        SheetKeys x = new SheetKeys();
        x.enter(0);
        x.enter(1);
        Check.same("open()", x.open(), 1);
        return x;
    }

    private static Model openedModel() {
        Model model = new Model();
        model.enter(0);
        model.enter(1);
        model.open();
        return model;
    }

    private static void feedStopsAtTheLimit() {
        SheetKeys x = new SheetKeys();
        for (int many = 20; many <= 16380; many += 20) {
            Check.same("feed", x.feed(many, 1, 2, 3, -1), many);
        }
        Check.same("feed over the limit", x.feed(1, 2, 3, 4, 5), SheetKeys.NONE);
        Check.same("the row stays", x.count(1), 16380);
        Check.same("the last byte stays", x.put(16379, 7), 255);
        Check.same("cut(16365)", x.cut(16365), 15);
        Check.same("feed over the limit by one", x.feed(1, 2, 3, 4, 5), SheetKeys.NONE);
        Check.same("cut(16364)", x.cut(16364), 1);
        Check.same("feed to the limit", x.feed(1, 2, 3, 4, 5), MOST);
        Check.same("the last byte", x.put(MOST - 1, 9), 5);
        Check.refused("put behind the limit", x, IndexOutOfBoundsException.class, () -> x.put(MOST, 0));
        Check.same("feed at the limit", x.feed(1, 2, 3, 4, 5), SheetKeys.NONE);
    }

    private static void sealStopsAtTheLimit() {
        SheetKeys x = openedOne();
        Model model = openedModel();
        int[] fitting = {16351, 16352, 16367};
        for (int many : fitting) {
            byte[] bytes = Sheets.some(many, many);
            Sheets.load(x, bytes);
            model.row = bytes;
            Check.same("seal " + many, x.seal(7, 8, 2, 9, 10), model.seal(7, 8, 2, 9, 10));
            Check.same("sealed " + many, Sheets.result(x), model.result);
            Check.same("keep " + many, x.keep(), model.result.length);
            Check.same("undo " + many, x.undo(7, 8, 2), many);
            Check.same("undone " + many, Sheets.result(x), bytes);
        }
        int[] tooMany = {16368, 16383, MOST};
        for (int many : tooMany) {
            byte[] bytes = Sheets.some(MOST, many);
            Sheets.load(x, Arrays.copyOf(bytes, 16364));
            Check.same("feed", x.feed(Sheets.word(bytes, 16364), Sheets.word(bytes, 16368), Sheets.word(bytes, 16372),
                    Sheets.word(bytes, 16376), Sheets.word(bytes, 16380)), MOST);
            x.cut(many);
            Check.refused("seal " + many, x, IllegalStateException.class, () -> x.seal(7, 8, 2, 9, 10));
            Check.refused("seal " + many + " with a wrong number", x, IllegalArgumentException.class,
                    () -> x.seal(-1, 8, 2, 9, 10));
            for (int method = 0; method <= 1; method++) {
                model.row = Arrays.copyOf(bytes, many);
                Check.same("seal by " + method, x.seal(7, 8, method, 9, 10), model.seal(7, 8, method, 9, 10));
                Check.same("sealed by " + method, Sheets.result(x), model.result);
            }
        }
    }

    private static void digestOfTheLongestRow() {
        SheetKeys x = new SheetKeys();
        Sheets.load(x, Sheets.some(16364, 3));
        x.feed(-1, -2, -3, -4, -5);
        x.digest();
        Check.same("digest of the longest row", Sheets.result(x), Model.digestOf(Sheets.row(x)));
        Check.same("its bytes", x.count(1), MOST);
    }
}
