import java.io.IOException;
import java.lang.reflect.Method;
import java.lang.reflect.Modifier;
import java.nio.file.Files;
import java.nio.file.Path;
import java.util.List;
import java.util.stream.Collectors;
import java.util.stream.Stream;

/** That README.md holds for the class as it stands; .ci/run starts it in the project's folder. */
public final class ReadmeTest {
    private static final Path TESTS = Path.of("src/test/java");
    private static final Due due = new Due();

    public static void main(String[] args) throws IOException {
        theExampleHolds();
        theExampleIsTheReadmes();
        everyCallIsTold();
        whatIsSaidOfCallsHolds();
        everyTestIsTold();
        due.end();
    }

    private static void theExampleHolds() {
        due.says("README: the example");
        // README's example begins
        TileDesk desk = new TileDesk(20, 12);      // 20 by 12 pixels: 3 by 2 tiles
        desk.background(0x808080);

        desk.corner(0, 0, 0, 100, 65536);          // corner 0 is at x 0, y 0 with r 100 and all the light
        desk.corner(1, 160, 0, 100, 65536);        // 160 sixteenths: 10 pixels to the right
        desk.corner(2, 160, 96, 100, 65536);
        int piece = desk.add(0xFF0000, 255);       // red and solid: piece 0

        int tiles = desk.begin();                  // takes pieces and background as they are: 6 tiles
        for (int k = tiles - 1; k >= 0; k--) {
            desk.tile(k);                          // any order gives the same picture
        }
        int colour = desk.pixel(5, 1);             // 0xFF0000
        int near = desk.nearness(5, 1);            // 100
        int beside = desk.pixel(19, 11);           // 0x808080
        int outside = desk.pixel(20, 11);          // TileDesk.NONE
        // README's example ends
        due.is("piece", piece, 0);
        due.is("tiles", tiles, 6);
        due.is("colour", colour, 0xFF0000);
        due.is("near", near, 100);
        due.is("beside", beside, 0x808080);
        due.is("outside", outside, TileDesk.NONE);
        due.is("the 10th pixel", desk.pixel(9, 0), 0xFF0000);
        due.is("the 11th pixel", desk.pixel(10, 0), 0x808080);
    }

    private static String between(Path file, String first, String last) throws IOException {
        List<String> lines = Files.readAllLines(file).stream().map(String::strip).toList();
        int from = lines.indexOf(first) + 1;
        int to = from + lines.subList(from, lines.size()).indexOf(last);
        return String.join("\n", lines.subList(from, Math.max(from, to))) + "\n";
    }

    private static void theExampleIsTheReadmes() throws IOException {
        due.says("README: the example, as it stands in this test");
        String told = between(Path.of("README.md"), "```java", "```");
        String tested = between(TESTS.resolve("ReadmeTest.java"), "// README's example begins", "// README's example ends");
        due.is("README.md's example is empty", told.isBlank(), false);
        due.is("README.md's example", told, tested);
    }

    private static void everyCallIsTold() throws IOException {
        due.says("README: the table of calls");
        String readme = Files.readString(Path.of("README.md"));
        due.is("the constructor is told", readme.contains("| `new TileDesk("), true);
        for (Method method : TileDesk.class.getDeclaredMethods()) {
            if (Modifier.isPublic(method.getModifiers())) {
                due.is(method.getName() + " is told", readme.contains("| `" + method.getName() + "("), true);
            }
        }
    }

    private static void whatIsSaidOfCallsHolds() {
        int[] green = {90, Desks.GREEN, 51};
        int[] blue = {80, Desks.BLUE, 51};
        int[] red = {10, Desks.RED, 255};
        due.says("README: clear; 0 is not seen");
        due.is("cover 0", Desks.mixed(0x123456, new int[] {5, Desks.WHITE, 0}), 0x123456);
        due.says("README: where two solid pieces are equally near, the one that was added first is seen");
        due.is("red, then white", Desks.mixed(0, red, new int[] {10, Desks.WHITE, 255}), Desks.RED);
        due.says("README: clear ones are laid on in the order in which they were added");
        // What was laid on first has 51 * 204 / 255 = 40.8 left.
        due.is("green, then blue", Desks.mixed(0, green, blue), 0x002833);
        due.is("blue, then green", Desks.mixed(0, blue, green), 0x003328);
        due.says("README: a solid one that is added later and lies farther off hides them: add what is solid first");
        due.is("clear, then solid", Desks.mixed(0, green, red), Desks.RED);
        due.is("solid, then clear", Desks.mixed(0, red, green), 0xCC3300);
    }

    private static void everyTestIsTold() throws IOException {
        due.says("README: the table of tests");
        String readme = Files.readString(Path.of("README.md"));
        try (Stream<Path> files = Files.list(TESTS)) {
            for (Path file : files.collect(Collectors.toList())) {
                String name = file.getFileName().toString().replace(".java", "");
                due.is(name + " is told", readme.contains("`" + name + "`"), true);
            }
        }
    }
}
