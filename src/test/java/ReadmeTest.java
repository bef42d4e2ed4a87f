import java.io.IOException;
import java.nio.charset.StandardCharsets;
import java.nio.file.Files;
import java.nio.file.Path;
import java.util.ArrayList;
import java.util.List;

/** The example of README.md, line by line: what it says behind // is what the class answers. */
final class ReadmeTest {
    private static final Check CHECK = new Check("ReadmeTest");

    public static void main(String[] args) throws IOException {
        example();
        readmeSaysTheSame();
        CHECK.end();
    }

    /** Below each line that names an answer stands its test, with that answer at its end. */
    private static void example() {
        FacadeShow show = new FacadeShow();
        show.column(5, 1, FacadeShow.BRICK);          // column, relief, surface
        int lamp = show.projector(4, 8, 200, 0, 8);   // 0: column, row, power, phase, focus
        CHECK.due("lamp", lamp, 0);
        show.aim(lamp, 2, 6);                         // covers the columns 2 to 6
        boolean wasOn = show.turn(lamp, true);        // false
        CHECK.due("wasOn", wasOn, false);
        int light = show.light(4);                    // 187
        CHECK.due("light", light, 187);
        int brick = show.gives(lamp, 5);              // 160
        CHECK.due("brick", brick, 160);
        show.need(1 << 4 | 1 << 5, 100);              // a set of columns, the level
        int columns = show.covered(1 << lamp);        // 124: the columns 2 to 6, one bit each
        CHECK.due("columns", columns, 124);
        int set = show.least();                       // 1: projector 0 alone
        CHECK.due("set", set, 1);
        boolean bears = show.bears(set);              // false: there is no other one
        CHECK.due("bears", bears, false);
        int was = show.cell(4, 5, FacadeShow.NEST);   // 0: EMPTY
        CHECK.due("was", was, 0);
        int breaches = show.breaches();               // 3
        CHECK.due("breaches", breaches, 3);
        int before = show.ready(lamp, 10);            // 0: it was ready for no frame but 0
        CHECK.due("before", before, 0);
        int minute = show.pass(15);                   // 15
        CHECK.due("minute", minute, 15);
        long frame = show.show(0);                    // 10
        CHECK.due("frame", frame, 10);
        long held = show.show(1);                     // 5
        CHECK.due("held", held, 5);
        long counted = show.show(2);                  // 45
        CHECK.due("counted", counted, 45);
    }

    private static void readmeSaysTheSame() throws IOException {
        List<String> tested = new ArrayList<>();
        for (String line : block("src/test/java/ReadmeTest.java", 8)) {
            if (!line.startsWith("CHECK.due(")) {
                tested.add(line);
                continue;
            }
            String answer = tested.get(tested.size() - 1).replaceAll(".*// (\\w+).*", "$1");
            CHECK.isTrue("tested as told: " + line, line.endsWith(", " + answer + ");"));
        }
        List<String> told = block("README.md", 4);
        CHECK.due("lines of the example", told.size(), tested.size());
        CHECK.isTrue("README tells " + tested, told.equals(tested));
    }

    /** The lines, as far in as this, from the one that makes an object on. */
    private static List<String> block(String file, int in) throws IOException {
        String margin = " ".repeat(in);
        List<String> block = new ArrayList<>();
        for (String line : Files.readAllLines(Path.of(file), StandardCharsets.UTF_8)) {
            boolean isIn = line.startsWith(margin);
            if (isIn && (!block.isEmpty() || line.startsWith(margin + "FacadeShow show = "))) {
                block.add(line.trim());
            } else if (!isIn && !block.isEmpty()) {
                return block;
            }
        }
        return block;
    }
}
