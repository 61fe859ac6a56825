import java.io.IOException;
import java.lang.reflect.Method;
import java.lang.reflect.Modifier;
import java.nio.file.Files;
import java.nio.file.Path;
import java.util.List;

/** README.md says how to use the class: its example is the one that runs here, and it names every call. */
final class ReadmeTest {
    private static final Due DUE = new Due("ReadmeTest");

    public static void main(String[] args) throws IOException {
        example();
        theSameExample();
        everyCall();
        DUE.finish();
    }

    private static void example() {
        // README.md has this:
        ThreeDays office = new ThreeDays();
        int anna = office.rider(0);
        int bert = office.rider(ThreeDays.NONE);
        int fences = office.fence(300);
        int optimum = office.course(200, 500);
        office.feed(0x746F7461, 0x6C3D6D61, 0x726B732B, 0x6F766572, 0x3B6F7574);
        office.feed(0x20696620, 0x66616C6C, 0x733E303B, 0x20202020, 0x20202020);
        office.end(32);
        int statements = office.rules();
        office.report(anna, 0, 0, 250, 0);
        office.report(anna, 1, 0, 36000, 0);
        office.report(anna, 2, 0, 36070, 0);
        office.clock(1, 4);
        int fall = office.report(bert, 4, 0, 0, 0);
        long total = office.total(anna);
        int place = office.place(bert);
        int struck = office.strike(fall);
        int placeNow = office.place(bert);
        int first = office.ring(0);
        office.as(fall);
        int placeThen = office.place(bert);
        // up to here.
        DUE.due("readme: anna", anna, 0);
        DUE.due("readme: bert", bert, 1);
        DUE.due("readme: fences", fences, 1);
        DUE.due("readme: optimum", optimum, 60);
        DUE.due("readme: statements", statements, 2);
        DUE.due("readme: fall", fall, 4);
        DUE.due("readme: total", total, 256);
        DUE.due("readme: place", place, 0);
        DUE.due("readme: struck", struck, 5);
        DUE.due("readme: placeNow", placeNow, 1);
        DUE.due("readme: first", first, 0);
        DUE.due("readme: placeThen", placeThen, 0);
    }

    private static void theSameExample() throws IOException {
        List<String> here = calls("src/test/java/ReadmeTest.java", "// README.md has this:", "// up to here.");
        List<String> there = calls("README.md", "```java", "```");
        DUE.due("readme: as many lines", there.size(), here.size());
        for (int i = 0; i < Math.min(here.size(), there.size()); i++) {
            DUE.due("readme: '" + there.get(i) + "' as here", there.get(i).equals(here.get(i)), true);
        }
    }

    /** The lines between two marks, without what is said of them. */
    private static List<String> calls(String file, String from, String to) throws IOException {
        List<String> lines = Files.readAllLines(Path.of(file)).stream().map(String::strip).toList();
        int start = lines.indexOf(from) + 1;
        int end = start + lines.subList(start, lines.size()).indexOf(to);
        return lines.subList(start, end).stream().map(l -> l.replaceAll("//.*", "").strip()).filter(l -> !l.isEmpty()).toList();
    }

    private static void everyCall() throws IOException {
        String readme = Files.readString(Path.of("README.md"));
        for (Method method : ThreeDays.class.getDeclaredMethods()) {
            if (Modifier.isPublic(method.getModifiers())) {
                DUE.due("readme: names " + method.getName(), readme.contains("`" + method.getName() + "`"), true);
            }
        }
    }
}
