import java.io.IOException;
import java.nio.file.Files;
import java.nio.file.Path;
import java.nio.file.Paths;
import java.util.ArrayList;
import java.util.List;

/** What README.md says of use: its example's lines stand here, too, and do what their comments say. */
public final class ReadmeTest {
    private static final Checks C = new Checks();
    private static final Path PAGE = Paths.get("README.md");
    private static final Path THIS_FILE = Paths.get("src/test/java/ReadmeTest.java");

    public static void main(String[] args) throws IOException {
        dueExampleIsHere();
        example();
        wrongCalls();
        undoLeavesTheBuffer();
        C.end();
    }

    private static void dueExampleIsHere() throws IOException {
        List<String> here = codeOf(Files.readAllLines(THIS_FILE));
        int next = 0;
        for (String line : codeOf(exampleLines())) {
            int place = here.subList(next, here.size()).indexOf(line);
            C.due("README's line stands here: " + line, true, place >= 0);
            next += Math.max(place, 0);
        }
        C.due("README has an example", true, next > 0);
    }

    private static List<String> exampleLines() throws IOException {
        List<String> lines = Files.readAllLines(PAGE);
        int first = lines.indexOf("```java") + 1;
        int end = first + lines.subList(first, lines.size()).indexOf("```");
        return lines.subList(first, Math.max(first, end));
    }

    /** The lines without their comments and the blanks around them. */
    private static List<String> codeOf(List<String> lines) {
        List<String> code = new ArrayList<>();
        for (String line : lines) {
            code.add(line.replaceFirst(" // .*", "").trim());
        }
        return code;
    }

    private static void example() {
        RareFaults plant = new RareFaults();
        plant.addPart(2);
        C.due("loads of the first part", "1 1 1 0 0 0", weights(plant, 0));
        for (char c : "90052;5321".toCharArray()) {
            plant.append(c);
        }
        plant.addAll();
        C.due("two more parts", 3, plant.count(0));
        C.due("the weights of the second", "9 0 0 5 2 0", weights(plant, 1));
        C.due("the weights of the third", "5 3 2 1 0 0", weights(plant, 2));
        plant.limit(9);
        plant.tiltAll(2);
        C.due("high loads are drawn more often", 18, plant.weight(1, 4, true));
        plant.draw(64);
        double estimate = plant.measure(1);
        double odds = plant.measure(0);
        C.due("the estimate is near the odds", true, estimate > 0.0 && estimate < 10.0 * odds);
        C.due("the odds", 2.0 / 528.0, odds);
        plant.undo();
        C.due("the samples are gone", 0, plant.count(3));
        C.due("the seed is back", 1, plant.count(2));
    }

    private static String weights(RareFaults plant, int part) {
        StringBuilder text = new StringBuilder();
        for (int load = 0; load <= 5; load++) {
            text.append(load == 0 ? "" : " ").append(plant.weight(part, load, false));
        }
        return text.toString();
    }

    private static void wrongCalls() {
        RareFaults x = Checks.plantOf("01");
        C.dueThrow("part(1, 0)", x, IndexOutOfBoundsException.class, () -> x.part(1, 0));
        C.dueThrow("limit(100)", x, IllegalArgumentException.class, () -> x.limit(100));
        C.dueThrow("weigh(0, 1, 0)", x, IllegalStateException.class, () -> x.weigh(0, 1, 0));
    }

    private static void undoLeavesTheBuffer() {
        RareFaults x = new RareFaults();
        Checks.type(x, "12;0;");
        C.due("firstError", 4, x.firstError());
        C.dueThrow("addAll", x, IllegalArgumentException.class, x::addAll);
        for (int limit = 0; limit <= 7; limit++) {
            x.limit(limit);
        }
        for (int left = 5; left >= 0; left--) {
            C.due("undo", left, x.undo());
        }
        C.dueThrow("undo of a seventh", x, IllegalStateException.class, x::undo);
        C.due("the limit before the latest six", 1, x.count(1));
        C.due("the buffer stays", 5, x.clearBuffer());
    }
}
