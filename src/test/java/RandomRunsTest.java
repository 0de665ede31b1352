import java.util.Arrays;
import java.util.Random;

/** Long runs of calls by fixed seeds: each answer is the model's. No run has more than 512 calls. */
public final class RandomRunsTest {
    private static final int RUNS = 600;
    private static final int CALLS = 512;
    private static final int[] PASSWORD_LENGTHS = {0, 1, 6, 31, 32, 33, 64};
    private static final int[] ODD = {
        -1, 0, 1, 2, 3, 4, 5, 15, 16, 17, 31, 32, 33, 63, 64, 65, 255, 256, 65535, 65536, 8388607, 8388608,
        Integer.MAX_VALUE, Integer.MIN_VALUE
    };

    private final Random random;
    private final SheetKeys x = new SheetKeys();
    private final Model model = new Model();
    private final int run;
    private int calls = 0;

    private RandomRunsTest(int run) {
        this.run = run;
        random = new Random(run);
    }

    public static void main(String[] args) {
        for (int run = 0; run < RUNS; run++) {
            new RandomRunsTest(run).go();
        }
        Check.end();
    }

    private void go() {
        while (calls < CALLS) {
            switch (random.nextInt(16)) {
                case 0 -> load(random.nextInt(100), random.nextInt(50));
                case 1 -> handlerOften();
                case 2, 3 -> {
                    password();
                    take(2 + random.nextInt(3));
                }
                case 4 -> takeAnEntry();
                case 5 -> {
                    enter(0);
                    enter(1);
                }
                case 6, 7 -> {
                    password();
                    open();
                }
                case 8 -> openByPassword();
                case 9, 10 -> sealAndUndo();
                case 11 -> keep();
                case 12 -> digest();
                case 13 -> spoil();
                default -> anyCall();
            }
            look();
        }
    }

    private int odd() {
        return ODD[random.nextInt(ODD.length)];
    }

    private int mostly(int bound) {
        return random.nextInt(8) == 0 ? odd() : random.nextInt(bound);
    }

    private void due(String call, Check.Call got, Check.Call due) {
        if (calls < CALLS) {
            calls++;
            Check.same("run " + run + ", call " + calls + ": " + call, Check.outcome(got), Check.outcome(due));
        }
    }

    private void load(int many, int seed) {
        load(Sheets.some(many, seed));
    }

    private void load(byte[] bytes) {
        byte[] whole = Arrays.copyOf(bytes, (bytes.length + 19) / 20 * 20);
        cut(0);
        for (int i = 0; i < whole.length; i += 20) {
            feed(Sheets.word(whole, i), Sheets.word(whole, i + 4), Sheets.word(whole, i + 8),
                    Sheets.word(whole, i + 12), Sheets.word(whole, i + 16));
        }
        cut(bytes.length);
    }

    private void password() {
        load(PASSWORD_LENGTHS[random.nextInt(PASSWORD_LENGTHS.length)], random.nextInt(2));
    }

    private void openByPassword() {
        load(random.nextBoolean() ? model.userPassword : model.ownerPassword);
        open();
    }

    private void handlerOften() {
        int revision = 2 + random.nextInt(3);
        int length = revision == 2 ? 5 : 5 + random.nextInt(12);
        handler(revision, length, random.nextInt(), random.nextBoolean());
        if (random.nextBoolean()) {
            enter(0);
            enter(1);
            openByPassword();
        }
    }

    private void takeAnEntry() {
        if (random.nextInt(4) == 0) {
            load(32, random.nextInt(5));
            take(random.nextInt(2));
        }
    }

    private void sealAndUndo() {
        int number = mostly(8388608);
        int generation = mostly(65536);
        int method = random.nextInt(3);
        seal(number, generation, method, random.nextInt(), random.nextInt());
        keep();
        if (random.nextInt(5) == 0) {
            spoil();
        }
        undo(number, generation, method);
    }

    private void spoil() {
        put(mostly(model.row.length + 1), mostly(256));
    }

    private void anyCall() {
        switch (random.nextInt(9)) {
            case 0 -> cut(mostly(120));
            case 1 -> handler(mostly(6), mostly(18), odd(), random.nextBoolean());
            case 2 -> take(mostly(6));
            case 3 -> enter(mostly(3));
            case 4 -> undo(mostly(8388608), mostly(65536), mostly(4));
            case 5 -> seal(mostly(8388608), mostly(65536), mostly(4), odd(), odd());
            case 6 -> put(odd(), odd());
            case 7 -> feed(odd(), odd(), odd(), odd(), odd());
            default -> open();
        }
    }

    private void look() {
        int what = mostly(3);
        int i = mostly(70);
        due("count(" + what + ")", () -> x.count(what), () -> model.count(what));
        due("at(" + i + ")", () -> x.at(i), () -> model.at(i));
        int k = mostly(18);
        due("key(" + k + ")", () -> x.key(k), () -> model.key(k));
        int e = mostly(34);
        due("entry(" + what + ", " + e + ")", () -> x.entry(what, e), () -> model.entry(what, e));
    }

    private void feed(int a, int b, int c, int d, int e) {
        due("feed(" + a + ", " + b + ", " + c + ", " + d + ", " + e + ")",
                () -> x.feed(a, b, c, d, e), () -> model.feed(a, b, c, d, e));
    }

    private void put(int i, int b) {
        due("put(" + i + ", " + b + ")", () -> x.put(i, b), () -> model.put(i, b));
    }

    private void cut(int many) {
        due("cut(" + many + ")", () -> x.cut(many), () -> model.cut(many));
    }

    private void handler(int revision, int length, int permissions, boolean leftOut) {
        due("handler(" + revision + ", " + length + ", " + permissions + ", " + leftOut + ")", () -> {
            x.handler(revision, length, permissions, leftOut);
            return 0;
        }, () -> {
            model.handler(revision, length, permissions, leftOut);
            return 0;
        });
    }

    private void take(int what) {
        due("take(" + what + ")", () -> x.take(what), () -> model.take(what));
    }

    private void enter(int what) {
        due("enter(" + what + ")", () -> {
            x.enter(what);
            return 0;
        }, () -> {
            model.enter(what);
            return 0;
        });
    }

    private void open() {
        due("open()", x::open, model::open);
    }

    private void digest() {
        due("digest()", () -> {
            x.digest();
            return 0;
        }, () -> {
            model.digest();
            return 0;
        });
    }

    private void undo(int number, int generation, int method) {
        due("undo(" + number + ", " + generation + ", " + method + ")",
                () -> x.undo(number, generation, method), () -> model.undo(number, generation, method));
    }

    private void seal(int number, int generation, int method, int one, int other) {
        due("seal(" + number + ", " + generation + ", " + method + ", " + one + ", " + other + ")",
                () -> x.seal(number, generation, method, one, other),
                () -> model.seal(number, generation, method, one, other));
    }

    private void keep() {
        due("keep()", x::keep, model::keep);
    }
}
