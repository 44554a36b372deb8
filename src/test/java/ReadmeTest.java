import java.io.IOException;
import java.nio.ByteBuffer;
import java.nio.file.Files;
import java.nio.file.Path;
import java.util.ArrayList;
import java.util.Arrays;
import java.util.List;

/** The examples of README.md do what it says of them, and stand here word for word. */
public final class ReadmeTest {
    private static final Path README = Path.of("README.md");
    private static final Path HERE = Path.of("src/test/java/ReadmeTest.java");

    private ReadmeTest() {
    }

    public static void main(String[] args) throws IOException {
        SapperWar war = firstExample();
        mapExample(war);
        examplesAreThoseOfTheReadme();
        Check.end();
    }

    private static SapperWar firstExample() {
        SapperWar war = new SapperWar();
        war.openAt(5, 5);
        int team = war.come(0, 5, 5, 9, 3);
        war.order(team, 1, 1, 4);
        war.order(team, 3, 0, 2);
        int hours = war.reach(team, 9, 5);
        int fallen = war.pass(hours);
        war.draw();
        int sign = war.byteAt(0);

        Check.due("hours", hours, 12);
        Check.due("walls", fallen, 0);
        Check.due("sign", sign, '3');
        Check.duePlace("it has come there", war, team, 9, 5);
        Check.due("the digs are carried out", war.team(team, 8), 3);
        return war;
    }

    private static void mapExample(SapperWar war) {
        String line = "3333a..#3333\n";
        byte[] bytes = line.repeat(12).getBytes();
        ByteBuffer tape = ByteBuffer.wrap(Arrays.copyOf(bytes, 160));
        while (tape.hasRemaining()) {
            war.feed(tape.getInt(), tape.getInt(), tape.getInt(), tape.getInt(), tape.getInt());
        }
        war.trim(156);
        int error = war.map();

        Check.due("error", error, -1);
        Check.due("the tape is empty", war.count(10), 0);
        Check.dueCell("under a wall", war, 4, 11, 1, 20, 0);
        Check.dueCell("tunnel", war, 5, 0, 3, -1, 1);
        Check.dueCell("rock", war, 7, 0, 0, -1, 0);
        Check.dueCell("earth", war, 11, 11, 3, -1, 0);
    }

    private static void examplesAreThoseOfTheReadme() throws IOException {
        List<String> here = new ArrayList<>();
        for (String line : Files.readAllLines(HERE)) {
            here.add(line.strip());
        }
        List<String> examples = javaLines();
        Check.due("README.md has examples", examples.isEmpty() ? 0 : 1, 1);
        for (String line : examples) {
            if (!here.contains(line)) {
                Check.wrong("README.md has a line that no test carries out: " + line);
            }
        }
    }

    /** The lines between the marks of Java code, without the comments behind them. */
    private static List<String> javaLines() throws IOException {
        List<String> lines = new ArrayList<>();
        boolean code = false;
        for (String line : Files.readAllLines(README)) {
            if (line.startsWith("```")) {
                code = line.equals("```java");
            } else if (code) {
                lines.add(line.split("//")[0].strip());
            }
        }
        return lines;
    }
}
