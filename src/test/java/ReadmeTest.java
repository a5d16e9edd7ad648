import java.io.IOException;
import java.nio.file.DirectoryStream;
import java.nio.file.Files;
import java.nio.file.Path;
import java.util.ArrayList;
import java.util.HashMap;
import java.util.List;
import java.util.Map;
import java.util.regex.Matcher;
import java.util.regex.Pattern;

/** What README.md says holds: its example and the answers told there, the calls of the face, and the tests. */
public final class ReadmeTest {
    private static final Path OWN = Path.of("src/test/java/ReadmeTest.java");
    private static final Pattern ANSWER = Pattern.compile("int (\\w+) = .*; +// (-?\\d+): .*");

    public static void main(String[] args) throws IOException {
        List<String> page = Files.readAllLines(Path.of("README.md"));
        example(page);
        calls(page);
        tests(page);
        Check.done("ReadmeTest");
    }

    private static Map<String, Integer> answers() {
        // example begins
        BadgeZones house = new BadgeZones();
        int lab = house.addZone(5, 480, 1080);
        int door = house.addDoor(0, lab, 2, 0);
        int badge = house.addBadge(1 << lab);
        int visitor = house.addVisitor(badge);
        int early = house.request(badge, door);
        int eight = house.tick(480);
        int passed = house.request(badge, door);
        int followed = house.request(visitor, door);
        int both = house.inside(lab);
        int later = house.tick(60);
        int minutes = house.minutesIn(badge, lab);
        int leaves = house.wouldBe(badge, door);
        int wayOut = house.next(visitor, 0);
        // example ends
        Map<String, Integer> answers = new HashMap<>(Map.of("lab", lab, "door", door, "badge", badge, "visitor", visitor));
        answers.putAll(Map.of("early", early, "eight", eight, "passed", passed, "followed", followed));
        answers.putAll(Map.of("both", both, "later", later, "minutes", minutes, "leaves", leaves, "wayOut", wayOut));
        return answers;
    }

    private static void example(List<String> page) throws IOException {
        List<String> told = between(page, "```java", "```");
        List<String> run = between(Files.readAllLines(OWN), "// example begins", "// example ends");
        Check.is("the example", withoutComments(told), withoutComments(run));
        Map<String, Integer> answers = answers();
        int found = 0;
        for (String line : told) {
            Matcher answer = ANSWER.matcher(line);
            if (answer.matches()) {
                found++;
                Check.is("the answer of " + line, Integer.valueOf(answer.group(2)), answers.get(answer.group(1)));
            }
        }
        Check.is("answers told", found, answers.size());
    }

    private static List<String> between(List<String> lines, String begin, String end) {
        List<String> found = new ArrayList<>();
        boolean isThere = false;
        for (String line : lines) {
            if (isThere && line.strip().equals(end)) {
                return found;
            }
            if (isThere) {
                found.add(line);
            }
            isThere = isThere || line.strip().equals(begin);
        }
        return found;
    }

    private static List<String> withoutComments(List<String> lines) {
        List<String> code = new ArrayList<>();
        for (String line : lines) {
            code.add(line.replaceAll("//.*", "").strip());
        }
        return code;
    }

    /** Each method stands in a row of its own, with the names of its parameters. */
    private static void calls(List<String> page) throws IOException {
        List<String> signatures = between(Files.readAllLines(Path.of("../shared/DOC.md")), "```java", "```");
        int methods = 0;
        for (String signature : signatures) {
            Matcher method = Pattern.compile("    public \\w+ (\\w+)\\((.*?)\\).*;").matcher(signature);
            if (method.matches()) {
                methods++;
                String call = "| `" + method.group(1) + "(" + method.group(2).replaceAll("\\w+ (\\w+)", "$1") + ")` | ";
                Check.is("rows with " + call, page.stream().filter(line -> line.startsWith(call)).count(), 1L);
            }
        }
        Check.is("methods of the face", methods, 25);
        String said = "An object is used for at most 512 calls after it has been made";
        Check.is("lines with " + said, page.stream().filter(line -> line.startsWith(said)).count(), 1L);
    }

    private static void tests(List<String> page) throws IOException {
        try (DirectoryStream<Path> files = Files.newDirectoryStream(OWN.getParent(), "*Test.java")) {
            for (Path file : files) {
                String row = "| " + file.getFileName().toString().replace(".java", "") + " | ";
                Check.is("rows with " + row, page.stream().filter(line -> line.startsWith(row)).count(), 1L);
            }
        }
        Check.is("how they are run", page.contains("    .ci/run"), true);
    }
}
