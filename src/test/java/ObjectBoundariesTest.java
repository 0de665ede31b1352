import java.util.Arrays;
import java.util.function.Supplier;

/** The boundary cases of the bytes of objects, sentence by sentence: promises 11 and 12. */
public final class ObjectBoundariesTest {
    private static final int LOWEST = Integer.MIN_VALUE;
    private static final int HIGHEST = Integer.MAX_VALUE;
    private static final int[] NO_NUMBER = {-1, 8388608, 8388609, 16777215, 16777216, LOWEST, HIGHEST};
    private static final int[] NO_GENERATION = {-1, 65536, 65537, 131071, LOWEST, HIGHEST};
    private static final int[] NO_METHOD = {-1, 3, 4, 255, LOWEST, HIGHEST};

    public static void main(String[] args) {
        undoOfAnEmptyRow();
        undoOfAWrongLength();
        undoOfTheShortestRow();
        undoOfAWrongEnd();
        undoOfEachRightEnd();
        undoAtTheEdgesOfItsNumbers();
        undoOfNoSuchObject();
        undoWithoutAKey();
        sealOfShortRows();
        sealByOneAndOther();
        sealAtTheEdgesOfItsNumbers();
        sealOfNoSuchObject();
        sealWithoutAKey();
        Check.end();
    }

    private static Sentence ofUndo() {
        return Sentence.ofPromise(11, "The result is the row, UNDONE as BYTES OF AN OBJECT: how many bytes it has; "
                + "method 2: LENGTH, if the row's bytes are no multiple of 16, or less than 32, PADDING, if the last "
                + "block does not end so (and the result stays).");
    }

    private static Sentence ofUndosArguments() {
        return Sentence.ofPromise(11, "IllegalArgument: number is not 0 .. 8,388,607, generation not 0 .. 65,535, "
                + "or method not 0 .. 2.");
    }

    private static void undoOfAnEmptyRow() {
        Sentence s = ofUndo();
        for (int method = 0; method <= 1; method++) {
            SheetKeys x = Locked.full(0);
            s.same("no bytes by method " + method, x.undo(1, 2, method), 0);
            s.same("an empty result by method " + method, x.count(0), 0);
            s.same("at(0) of it", x.at(0), SheetKeys.NONE);
        }
        s.idle("no bytes by method 2", SheetKeys.LENGTH, () -> Locked.full(0), x -> x.undo(1, 2, 2));
    }

    private static void undoOfAWrongLength() {
        Sentence s = ofUndo();
        int[] wrong = {1, 8, 15, 16, 17, 20, 24, 31, 33, 40, 47, 49, 63, 65, 79, 81};
        for (int many : wrong) {
            s.idle("undo of " + many + " bytes by blocks", SheetKeys.LENGTH,
                    () -> Locked.full(many), x -> x.undo(1, 2, 2));
            SheetKeys x = Locked.full(many);
            s.same("undo of " + many + " bytes as they are", x.undo(1, 2, 0), many);
            s.same("undo of " + many + " bytes by the stream", x.undo(1, 2, 1), many);
        }
    }

    private static void undoOfTheShortestRow() {
        Sentence s = ofUndo();
        byte[] onlyFilling = new byte[16];
        Arrays.fill(onlyFilling, (byte) 16);
        Locked both = Locked.opened(4, 16);
        both.loadBlocks(onlyFilling, 5, 6);
        s.same("32 bytes of which all are left out", both.x.undo(5, 6, 2), 0);
        s.same("an empty result", both.x.count(0), 0);
        byte[] oneLeftOut = Sheets.some(16, 4);
        oneLeftOut[15] = 1;
        both.loadBlocks(oneLeftOut, 5, 6);
        s.same("32 bytes of which one is left out", both.x.undo(5, 6, 2), 15);
        s.same("all but that", Sheets.result(both.x), Arrays.copyOf(oneLeftOut, 15));
    }

    /** The object has a result, and its row ends, when it is undone, in this byte, so many times. */
    private static SheetKeys endingIn(int v, int times) {
        byte[] plain = Sheets.some(32, 8);
        Arrays.fill(plain, 32 - times, 32, (byte) v);
        Locked both = Locked.opened(4, 16);
        both.x.digest();
        both.loadBlocks(plain, 5, 6);
        return both.x;
    }

    private static void undoOfAWrongEnd() {
        Sentence s = ofUndo();
        int[] noFilling = {0, 17, 18, 32, 127, 128, 240, 255};
        for (int v : noFilling) {
            s.idle("a last byte " + v, SheetKeys.PADDING, () -> endingIn(v, 1), x -> x.undo(5, 6, 2));
            s.idle("a last block of " + v, SheetKeys.PADDING, () -> endingIn(v, 16), x -> x.undo(5, 6, 2));
            s.idle("last blocks of " + v, SheetKeys.PADDING, () -> endingIn(v, 32), x -> x.undo(5, 6, 2));
        }
        for (int v = 2; v <= 16; v++) {
            int w = v;
            s.idle("a last byte " + v + " alone", SheetKeys.PADDING, () -> endingIn(w, 1), x -> x.undo(5, 6, 2));
            s.idle("one too few of " + v, SheetKeys.PADDING, () -> endingIn(w, w - 1), x -> x.undo(5, 6, 2));
        }
    }

    private static void undoOfEachRightEnd() {
        Sentence s = ofUndo();
        for (int v = 1; v <= 16; v++) {
            SheetKeys just = endingIn(v, v);
            s.same("just as many as there have to be of " + v, just.undo(5, 6, 2), 32 - v);
            s.same("the result", Sheets.result(just), Arrays.copyOf(Sheets.some(32, 8), 32 - v));
            SheetKeys more = endingIn(v, 17);
            s.same("more than there have to be of " + v, more.undo(5, 6, 2), 32 - v);
            s.same("only the last ones are left out", more.at(31 - v), v);
            s.same("at the result's end", more.at(32 - v), SheetKeys.NONE);
        }
    }

    private static void undoAtTheEdgesOfItsNumbers() {
        Sentence s = ofUndosArguments();
        for (int method = 0; method <= 2; method++) {
            for (int[] object : objectsAtTheEdges()) {
                Locked both = Locked.opened(4, 11);
                both.load(Sheets.some(40, 3));
                both.model.seal(object[0], object[1], method, 1, 2);
                both.load(both.model.result);
                String call = "undo(" + object[0] + ", " + object[1] + ", " + method + ")";
                s.same(call, both.x.undo(object[0], object[1], method), 40);
                s.same(call + " and its result", Sheets.result(both.x), Sheets.some(40, 3));
            }
        }
    }

    private static int[][] objectsAtTheEdges() {
        return new int[][] {
            {0, 0}, {1, 1}, {0, 65535}, {8388607, 0}, {8388607, 65535}, {8388606, 65534},
            {255, 255}, {256, 256}, {65535, 255}, {65536, 256}
        };
    }

    private static void undoOfNoSuchObject() {
        Sentence s = ofUndosArguments();
        int[] lengths = {0, 32};
        for (int many : lengths) {
            refusedUndo(s, IllegalArgumentException.class, () -> Locked.full(many));
            refusedUndo(s, IllegalArgumentException.class, () -> Locked.keyless(many));
        }
    }

    private static void refusedUndo(Sentence s, Class<? extends RuntimeException> due, Supplier<SheetKeys> start) {
        for (int number : NO_NUMBER) {
            s.refused("undo(" + number + ", 0, 0)", due, start, x -> x.undo(number, 0, 0));
            s.refused("undo(" + number + ", 65535, 2)", due, start, x -> x.undo(number, 65535, 2));
        }
        for (int generation : NO_GENERATION) {
            s.refused("undo(0, " + generation + ", 1)", due, start, x -> x.undo(0, generation, 1));
            s.refused("undo(8388607, " + generation + ", 2)", due, start, x -> x.undo(8388607, generation, 2));
        }
        for (int method : NO_METHOD) {
            s.refused("undo(0, 0, " + method + ")", due, start, x -> x.undo(0, 0, method));
            s.refused("undo(8388607, 65535, " + method + ")", due, start, x -> x.undo(8388607, 65535, method));
        }
    }

    /** Each call that leaves the key unknown, and none before it. */
    private static SheetKeys withoutAKey(int how, int many) {
        if (how == 0) {
            SheetKeys x = new SheetKeys();
            Sheets.load(x, Sheets.some(many, 1));
            return x;
        }
        SheetKeys x = Locked.full(32);
        switch (how) {
            case 1 -> x.handler(3, 16, -4, false);
            case 2 -> x.take(0);
            case 3 -> x.take(1);
            case 4 -> x.take(2);
            case 5 -> x.enter(0);
            default -> x.enter(1);
        }
        Sheets.load(x, Sheets.some(many, 1));
        return x;
    }

    private static void undoWithoutAKey() {
        Sentence s = Sentence.ofPromise(11, "IllegalState: the KEY is unknown.");
        int[] lengths = {0, 17, 32};
        for (int how = 0; how <= 6; how++) {
            int h = how;
            for (int many : lengths) {
                for (int method = 0; method <= 2; method++) {
                    int m = method;
                    s.refused("undo(0, 0, " + m + ") of " + many + " bytes, unknown by way " + h,
                            IllegalStateException.class, () -> withoutAKey(h, many), x -> x.undo(0, 0, m));
                }
            }
        }
        s.refused("undo(8388607, 65535, 2)", IllegalStateException.class,
                () -> Locked.keyless(32), x -> x.undo(8388607, 65535, 2));
    }

    private static Sentence ofSeal() {
        return Sentence.ofPromise(12, "The result is the row, SEALED: how many bytes it has; with method 2 what goes "
                + "before is one, other, ~one, ~other, the highest byte of each first.");
    }

    private static Sentence ofSealsExceptions() {
        return Sentence.ofPromise(12, "IllegalArgument, IllegalState, as before; method 2: also if the result would "
                + "have more than 16,384 bytes.");
    }

    private static void sealOfShortRows() {
        Sentence s = ofSeal();
        int[][] dues = {
            {0, 32}, {1, 32}, {14, 32}, {15, 32}, {16, 48}, {17, 48}, {31, 48}, {32, 64}, {33, 64}, {47, 64}, {48, 80}
        };
        for (int[] due : dues) {
            Locked both = Locked.opened(4, 16);
            both.load(Sheets.some(due[0], 5));
            both.model.seal(3, 2, 2, 4, 5);
            s.same("how many of " + due[0] + " bytes by blocks", both.x.seal(3, 2, 2, 4, 5), due[1]);
            s.same(due[0] + " bytes sealed by blocks", Sheets.result(both.x), both.model.result);
            s.same("the row stays", Sheets.row(both.x), both.model.row);
            for (int method = 0; method <= 1; method++) {
                both.model.seal(3, 2, method, 4, 5);
                s.same("how many of " + due[0] + " bytes by " + method, both.x.seal(3, 2, method, 4, 5), due[0]);
                s.same(due[0] + " bytes sealed by " + method, Sheets.result(both.x), both.model.result);
            }
        }
    }

    private static void sealByOneAndOther() {
        Sentence s = ofSeal();
        int[] told = {0, -1, LOWEST, HIGHEST};
        String[] first = {"00000000", "ffffffff", "80000000", "7fffffff"};
        String[] turned = {"ffffffff", "00000000", "7fffffff", "80000000"};
        for (int i = 0; i < 4; i++) {
            for (int k = 0; k < 4; k++) {
                Locked both = Locked.opened(3, 5);
                both.load(Sheets.some(9, i));
                both.model.seal(3, 2, 2, told[i], told[k]);
                String call = "seal(3, 2, 2, " + told[i] + ", " + told[k] + ")";
                s.same(call, both.x.seal(3, 2, 2, told[i], told[k]), 32);
                s.same(call + " and what goes before", Arrays.copyOf(Sheets.result(both.x), 16),
                        Sheets.hex(first[i] + first[k] + turned[i] + turned[k]));
                s.same(call + " and its result", Sheets.result(both.x), both.model.result);
            }
        }
    }

    private static void sealAtTheEdgesOfItsNumbers() {
        Sentence s = ofSealsExceptions();
        for (int method = 0; method <= 2; method++) {
            for (int[] object : objectsAtTheEdges()) {
                Locked both = Locked.opened(4, 11);
                both.load(Sheets.some(40, 3));
                both.model.seal(object[0], object[1], method, 1, 2);
                String call = "seal(" + object[0] + ", " + object[1] + ", " + method + ", 1, 2)";
                s.same(call, both.x.seal(object[0], object[1], method, 1, 2), method == 2 ? 64 : 40);
                s.same(call + " and its result", Sheets.result(both.x), both.model.result);
            }
        }
    }

    private static void sealOfNoSuchObject() {
        Sentence s = ofSealsExceptions();
        refusedSeal(s, IllegalArgumentException.class, () -> Locked.full(32));
        refusedSeal(s, IllegalArgumentException.class, () -> Locked.full(0));
        refusedSeal(s, IllegalArgumentException.class, () -> Locked.keyless(32));
    }

    private static void refusedSeal(Sentence s, Class<? extends RuntimeException> due, Supplier<SheetKeys> start) {
        for (int number : NO_NUMBER) {
            s.refused("seal(" + number + ", 0, 0, 1, 2)", due, start, x -> x.seal(number, 0, 0, 1, 2));
            s.refused("seal(" + number + ", 65535, 2, 1, 2)", due, start, x -> x.seal(number, 65535, 2, 1, 2));
        }
        for (int generation : NO_GENERATION) {
            s.refused("seal(0, " + generation + ", 1, 1, 2)", due, start, x -> x.seal(0, generation, 1, 1, 2));
            s.refused("seal(8388607, " + generation + ", 2, 1, 2)", due, start,
                    x -> x.seal(8388607, generation, 2, 1, 2));
        }
        for (int method : NO_METHOD) {
            s.refused("seal(0, 0, " + method + ", 1, 2)", due, start, x -> x.seal(0, 0, method, 1, 2));
            s.refused("seal(8388607, 65535, " + method + ", 1, 2)", due, start,
                    x -> x.seal(8388607, 65535, method, 1, 2));
        }
    }

    private static void sealWithoutAKey() {
        Sentence s = ofSealsExceptions();
        int[] lengths = {0, 17};
        for (int how = 0; how <= 6; how++) {
            int h = how;
            for (int many : lengths) {
                for (int method = 0; method <= 2; method++) {
                    int m = method;
                    s.refused("seal(0, 0, " + m + ", 1, 2) of " + many + " bytes, unknown by way " + h,
                            IllegalStateException.class, () -> withoutAKey(h, many), x -> x.seal(0, 0, m, 1, 2));
                }
            }
        }
        s.refused("seal(8388607, 65535, 2, 1, 2)", IllegalStateException.class,
                () -> Locked.keyless(32), x -> x.seal(8388607, 65535, 2, 1, 2));
    }
}
