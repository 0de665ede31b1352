import java.util.Arrays;

/** Counts and prints the answers that are not as due. */
final class Check {
    /** A call whose answer, or whose exception, is looked at. */
    interface Call {
        long answer();
    }

    private static int wrong = 0;
    private static int looked = 0;

    private Check() {
    }

    static void same(String what, long got, long due) {
        looked++;
        if (got != due) {
            wrong++;
            System.out.println(what + " answered " + got + ", due is " + due);
        }
    }

    static void same(String what, String got, String due) {
        looked++;
        if (!got.equals(due)) {
            wrong++;
            System.out.println(what + " answered " + got + ", due is " + due);
        }
    }

    static void same(String what, byte[] got, byte[] due) {
        same(what, Arrays.toString(got), Arrays.toString(due));
    }

    /** The call throws just this class, and the object is afterwards as it was before. */
    static void refused(String what, SheetKeys x, Class<? extends RuntimeException> due, Call call) {
        String before = Sheets.look(x);
        same(what, outcome(call), "throws." + due.getSimpleName());
        same(what + " leaves", Sheets.look(x), before);
    }

    static String outcome(Call call) {
        try {
            return Long.toString(call.answer());
        } catch (RuntimeException e) {
            return "throws." + e.getClass().getSimpleName();
        }
    }

    static void end() {
        System.out.println(looked + " answers looked at, " + (wrong == 0 ? "all as due" : wrong + " not as due"));
        if (wrong != 0) {
            System.exit(1);
        }
    }
}
