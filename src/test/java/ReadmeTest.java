import java.io.IOException;
import java.lang.reflect.Method;
import java.lang.reflect.Modifier;
import java.nio.file.Files;
import java.nio.file.Path;

/** What README.md shows is so: its example's answers, and that it names every call. */
public final class ReadmeTest {
    private static String page;

    public static void main(String[] args) throws IOException {
        page = Files.readString(Path.of("README.md"));
        example();
        everyCallIsNamed();
        Checks.finish();
    }

    private static void shown(String call, int got, int want, String answer) {
        Checks.due(call, got, want);
        String row = "bed." + call + ";";
        boolean found = page.lines().anyMatch(line -> line.startsWith(row) && line.contains("// " + answer));
        Checks.due("README.md shows " + row + " // " + answer, found, true);
    }

    private static void example() {
        AirBed bed = new AirBed();
        shown("feed(0x62656420, 0x3130303b, 0x626c6f77, 0x65722061, 0x20323020)",
                bed.feed(0x62656420, 0x3130303b, 0x626c6f77, 0x65722061, 0x20323020), 20, "20 bytes");
        shown("feed(0x35203320, 0x32203130, 0x20312034, 0x3b202020, 0x20202020)",
                bed.feed(0x35203320, 0x32203130, 0x20312034, 0x3b202020, 0x20202020), 40, "40 bytes");
        shown("text(33)", bed.text(33), 2, "2 lines");
        shown("blow(0, 2)", bed.blow(0, 2), 35, "35:");
        shown("look(0, 0)", bed.look(0, 0), 10, "10:");
        shown("blow(0, 2)", bed.blow(0, 2), -2, "-2:");
        shown("waits(5, true)", bed.waits(5, true), 0, "0:");
        shown("undo()", bed.undo(), 1, "1:");
        shown("count(1)", bed.count(1), 35, "35:");
        shown("patch(0)", bed.patch(0), -1, "-1:");
    }

    private static void everyCallIsNamed() {
        for (Method method : AirBed.class.getDeclaredMethods()) {
            if (Modifier.isPublic(method.getModifiers())) {
                Checks.due("README.md names " + method.getName(), page.contains("`" + method.getName() + "`"), true);
            }
        }
    }
}
