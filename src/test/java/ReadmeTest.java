import java.io.File;
import java.io.IOException;
import java.nio.file.Files;
import java.nio.file.Path;
import java.util.Arrays;
import java.util.List;
import java.util.TreeSet;
import java.util.regex.Matcher;
import java.util.regex.Pattern;

/** What README.md says is so: its example, its table of tests, and how these are run. */
public final class ReadmeTest {
    private static final Check CHECK = new Check();

    public static void main(String[] args) throws IOException {
        List<String> readme = Files.readAllLines(Path.of("README.md"));
        example();
        exampleIsTheOneAbove(readme);
        everyTestIsNamed(readme);
        CHECK.yes(".ci/run can be run", new File(".ci/run").canExecute());
        CHECK.end();
    }

    private static void example() {
        BedsideNet net = new BedsideNet();
        CHECK.yes("device", net.device(0, 1));
        CHECK.same("channel", net.channel(0, 3, 0, 200, 10), 0);
        CHECK.yes("alarm", net.alarm(0, 0, 2, 120, 1000));
        CHECK.yes("seal", net.seal(0));
        CHECK.yes("patient", net.patient(1, 77));
        CHECK.yes("confirm", net.confirm(0));
        CHECK.same("tied to patient 77", net.look(0, 4), 77);
        int handle = net.bind(1, 3);
        CHECK.yes("sample", net.sample(0, 0, 50));
        CHECK.same("message 0, a VALUE", net.message(0, 0), 1);
        CHECK.yes("carry", net.carry(0, false));
        CHECK.same("shown", net.shown(handle, 0), 50);
        CHECK.same("the VALUE is sent anew", net.tick(1000), 1);
        CHECK.same("a VALUE", net.message(1, 0), 1);
        CHECK.yes("sample", net.sample(0, 0, 130));
        CHECK.same("VALUE and ALARM", net.tick(1000), 2);
        CHECK.same("message 4, an ALARM", net.message(4, 0), 2);
        CHECK.yes("carry", net.carry(4, false));
        CHECK.same("the station sounds", net.count(6), 1);
        CHECK.yes("acknowledge", net.acknowledge(0, 0));
        CHECK.same("message 6, a HEARD", net.message(6, 0), 4);
        CHECK.yes("carry", net.carry(6, false));
        CHECK.same("ON and acknowledged", net.look(0, 10), 3);
    }

    /** Each call of README's example stands in this file, in its order. */
    private static void exampleIsTheOneAbove(List<String> readme) throws IOException {
        String own = Files.readString(Path.of("src/test/java/ReadmeTest.java"));
        int from = readme.indexOf("```java") + 1;
        int at = 0;
        int calls = 0;
        for (String line : readme.subList(from, from + readme.subList(from, readme.size()).indexOf("```"))) {
            String code = line.replaceFirst("//.*", "").replace(";", "").trim();
            int found = own.indexOf(code, at);
            if (found < 0) {
                CHECK.tell("README's example has a line that is not tested in its place: " + line);
                return;
            }
            at = found;
            calls++;
        }
        CHECK.yes("README has an example", calls > 10);
    }

    private static void everyTestIsNamed(List<String> readme) {
        TreeSet<String> named = new TreeSet<>();
        Pattern row = Pattern.compile("\\| (\\w+Test) \\|.*");
        for (String line : readme) {
            Matcher matcher = row.matcher(line);
            if (matcher.matches()) {
                named.add(matcher.group(1) + ".java");
            }
        }
        String[] files = new File("src/test/java").list((directory, name) -> name.endsWith("Test.java"));
        TreeSet<String> present = new TreeSet<>(Arrays.asList(files));
        if (!named.equals(present)) {
            CHECK.tell("README names " + named + ", there are " + present);
        }
    }
}
