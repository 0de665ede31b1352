import java.io.IOException;
import java.nio.file.Files;
import java.nio.file.Path;

/** The example that README.md gives answers as it says there. */
public final class ReadmeTest {
    private final String readme;

    private ReadmeTest(String readme) {
        this.readme = readme;
    }

    public static void main(String[] args) throws IOException {
        new ReadmeTest(Files.readString(Path.of("README.md"))).example();
        Check.end();
    }

    private void shown(String call, String says) {
        boolean stands = readme.lines().anyMatch(line -> line.startsWith(call + "; ") && line.contains("// " + says));
        Check.same("README.md has the line '" + call + "' with '" + says + "'", stands ? 1 : 0, 1);
    }

    private void due(String call, long got, long due) {
        shown(call, Long.toString(due));
        Check.same(call, got, due);
    }

    private void example() {
        SheetKeys x = new SheetKeys();
        shown("x.handler(4, 16, -44, false)", "");
        x.handler(4, 16, -44, false);
        due("x.feed(0x72656164, 0x65720000, 0, 0, 0)", x.feed(0x72656164, 0x65720000, 0, 0, 0), 20);
        due("x.cut(6)", x.cut(6), 14);
        Check.same("the row", Sheets.row(x), Sheets.text("reader"));
        due("x.take(4)", x.take(4), 6);
        shown("x.enter(0)", "");
        x.enter(0);
        shown("x.enter(1)", "");
        x.enter(1);
        due("x.open()", x.open(), 1);
        due("x.seal(12, 0, 2, 1, 2)", x.seal(12, 0, 2, 1, 2), 32);
        due("x.keep()", x.keep(), 32);
        due("x.undo(12, 0, 2)", x.undo(12, 0, 2), 6);
        due("x.at(0)", x.at(0), 114);
        due("x.at(6)", x.at(6), SheetKeys.NONE);
        Check.same("the result", Sheets.result(x), Sheets.text("reader"));
    }
}
