import java.util.function.Supplier;

/** A sentence of the document that names a boundary case: each line that a failing check prints bears its words. */
final class Sentence {
    /** A call on an object. */
    interface Act {
        long on(SheetKeys x);
    }

    private final String name;

    private Sentence(String where, String words) {
        name = where + ", \"" + words + "\": ";
    }

    static Sentence ofPromise(int number, String words) {
        return new Sentence("Promise " + number, words);
    }

    static Sentence ofTerms(String words) {
        return new Sentence("Terms", words);
    }

    void same(String what, long got, long due) {
        Check.same(name + what, got, due);
    }

    void same(String what, byte[] got, byte[] due) {
        Check.same(name + what, got, due);
    }

    /** The call throws just this class and changes nothing. */
    void refused(String call, Class<? extends RuntimeException> due, Supplier<SheetKeys> start, Act act) {
        changesNothing(call, "throws." + due.getSimpleName(), start, act);
    }

    /** The call answers so and changes nothing. */
    void idle(String call, long due, Supplier<SheetKeys> start, Act act) {
        changesNothing(call, Long.toString(due), start, act);
    }

    /** Looking uses an object up, so two are made alike, and only one of them has the call. */
    private void changesNothing(String call, String due, Supplier<SheetKeys> start, Act act) {
        SheetKeys left = start.get();
        SheetKeys called = start.get();
        Check.same(name + call, Check.outcome(() -> act.on(called)), due);
        Check.same(name + call + ", and all that can be seen afterwards", Sheets.look(called), Sheets.look(left));
    }
}
