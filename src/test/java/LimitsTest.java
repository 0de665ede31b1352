import java.util.Arrays;

/**
 * The sentences that name 16,384 bytes. No run of 512 calls gets there, so the document promises nothing of these
 * calls by their number; but the limits are its own, and no call may ever throw by itself.
 */
public final class LimitsTest {
    private static final int MOST = 16384;

    public static void main(String[] args) {
        theRowHasNoMore();
        feedStopsAtTheLimit();
        sealStopsAtTheLimit();
        sealByOtherMethodsDoesNot();
        theLongestRowIsUsedWhole();
        Check.end();
    }

    private static byte[] longest() {
        return Sheets.some(MOST, 3);
    }

    /** As Locked.full, but with up to 16,384 bytes. */
    private static Locked withRowOf(int many) {
        Locked both = Locked.opened(4, 11);
        both.x.digest();
        byte[] bytes = longest();
        Sheets.load(both.x, Arrays.copyOf(bytes, MOST - 20));
        both.x.feed(Sheets.word(bytes, MOST - 20), Sheets.word(bytes, MOST - 16), Sheets.word(bytes, MOST - 12),
                Sheets.word(bytes, MOST - 8), Sheets.word(bytes, MOST - 4));
        both.x.cut(many);
        both.model.row = Arrays.copyOf(bytes, many);
        return both;
    }

    private static void theRowHasNoMore() {
        Sentence s = Sentence.ofTerms("THE ROW has at most 16,384 bytes.");
        SheetKeys x = withRowOf(MOST).x;
        s.same("count(1)", x.count(1), MOST);
        s.same("the last byte", x.put(MOST - 1, 9), longest()[MOST - 1] & 255);
        s.same("the last byte then", x.put(MOST - 1, 8), 9);
        s.refused("put(16384, 0)", IndexOutOfBoundsException.class, () -> withRowOf(MOST).x, y -> y.put(MOST, 0));
        s.idle("cut(16384)", 0, () -> withRowOf(MOST).x, y -> y.cut(MOST));
        s.same("cut(16383)", x.cut(MOST - 1), 1);
    }

    private static void feedStopsAtTheLimit() {
        Sentence s = Sentence.ofPromise(2, "Twenty bytes more in the row, the highest of a first: how many it has; "
                + "NONE (and nothing happens) if there would be more than 16,384.");
        SheetKeys x = new SheetKeys();
        for (int many = 20; many <= 16380; many += 20) {
            s.same("feed to " + many, x.feed(many, 1, 2, 3, -1), many);
        }
        s.same("feed behind 16380", x.feed(1, 2, 3, 4, 5), SheetKeys.NONE);
        s.same("feed to just 16384", withRowOf(MOST - 20).x.feed(1, 2, 3, 4, 5), MOST);
        int[] tooMany = {MOST - 19, MOST - 18, MOST - 1, MOST};
        for (int many : tooMany) {
            s.idle("feed behind " + many, SheetKeys.NONE, () -> withRowOf(many).x, y -> y.feed(1, 2, 3, 4, 5));
        }
    }

    private static Sentence ofSeal() {
        return Sentence.ofPromise(12, "IllegalArgument, IllegalState, as before; method 2: also if the result would "
                + "have more than 16,384 bytes.");
    }

    private static void sealStopsAtTheLimit() {
        Sentence s = ofSeal();
        int[][] fitting = {{16351, 16368}, {16352, 16384}, {16366, 16384}, {16367, 16384}};
        for (int[] f : fitting) {
            Locked both = withRowOf(f[0]);
            byte[] plain = both.model.row;
            both.model.seal(7, 8, 2, 9, 10);
            s.same("seal of " + f[0], both.x.seal(7, 8, 2, 9, 10), f[1]);
            s.same(f[0] + " sealed", Sheets.result(both.x), both.model.result);
            s.same("keep()", both.x.keep(), f[1]);
            s.same("undo of " + f[1], both.x.undo(7, 8, 2), f[0]);
            s.same(f[1] + " undone", Sheets.result(both.x), plain);
        }
        int[] tooMany = {16368, 16369, 16383, MOST};
        for (int many : tooMany) {
            s.refused("seal of " + many, IllegalStateException.class,
                    () -> withRowOf(many).x, x -> x.seal(7, 8, 2, 9, 10));
            s.refused("seal of " + many + " by a wrong number too", IllegalArgumentException.class,
                    () -> withRowOf(many).x, x -> x.seal(-1, 8, 2, 9, 10));
        }
    }

    private static void sealByOtherMethodsDoesNot() {
        Sentence s = ofSeal();
        int[] lengths = {16368, MOST};
        for (int many : lengths) {
            for (int method = 0; method <= 1; method++) {
                Locked both = withRowOf(many);
                both.model.seal(7, 8, method, 9, 10);
                s.same("seal of " + many + " by " + method, both.x.seal(7, 8, method, 9, 10), many);
                s.same(many + " sealed by " + method, Sheets.result(both.x), both.model.result);
                s.same("keep()", both.x.keep(), many);
                s.same("undo of " + many + " by " + method, both.x.undo(7, 8, method), many);
            }
        }
    }

    private static void theLongestRowIsUsedWhole() {
        Sentence s = Sentence.ofPromise(10, "The result is the row's DIGEST.");
        Locked both = withRowOf(MOST);
        both.x.digest();
        s.same("of 16,384 bytes", Sheets.result(both.x), Model.digestOf(longest()));
        Sentence t = Sentence.ofPromise(11, "The result is the row, UNDONE as BYTES OF AN OBJECT: how many bytes it "
                + "has; method 2: LENGTH, if the row's bytes are no multiple of 16, or less than 32, PADDING, if the "
                + "last block does not end so (and the result stays).");
        t.idle("undo of 16,383", SheetKeys.LENGTH, () -> withRowOf(MOST - 1).x, x -> x.undo(7, 8, 2));
        t.idle("undo of 16,384 that end wrong", SheetKeys.PADDING, () -> withRowOf(MOST).x, x -> x.undo(7, 8, 2));
        t.same("open() by 16,384 bytes", withRowOf(MOST).x.open(), 0);
    }
}
