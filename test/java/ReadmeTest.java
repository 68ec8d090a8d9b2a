import java.nio.file.Files;
import java.nio.file.Path;
import java.util.Set;
import java.util.TreeSet;
import java.util.regex.Matcher;
import java.util.regex.Pattern;

/** README.md tells how to use the class: its calls, on one object and in its order, answer what it says behind them. */
public final class ReadmeTest {
    private static final Pattern CALL = Pattern.compile("close\\.(\\w+)\\(([^)]*)\\);\\s+// (-?\\d+): .*");
    private static final Pattern SAID = Pattern.compile("for \\(char sign : \"([^\"]*)\"\\.toCharArray\\(\\)\\) \\{.*");

    public static void main(String[] args) throws Exception {
        PanTales close = new PanTales();
        Set<String> used = new TreeSet<>(Set.of("say"));
        boolean inside = false;
        for (String line : Files.readAllLines(Path.of("README.md"))) {
            if (line.startsWith("```")) {
                inside = line.equals("```java");
            } else if (inside) {
                use(close, line, used);
            }
        }
        Runs.due("README.md", "uses each call: " + used,
                used.equals(new TreeSet<>(Runs.callsOf(PanTales.class).keySet())) ? 1 : 0, 1);
        Runs.end();
    }

    private static void use(PanTales close, String line, Set<String> used) {
        Matcher call = CALL.matcher(line);
        Matcher said = SAID.matcher(line);
        if (call.matches()) {
            String row = call.group(1) + " " + call.group(2).replace(", ", " ");
            used.add(call.group(1));
            Runs.go(close, "README.md", row.strip() + " -> " + call.group(3));
        } else if (said.matches()) {
            Runs.go(close, "README.md", "pad " + said.group(1));
        } else {
            boolean known = Set.of("PanTales close = new PanTales();", "close.say(sign);", "}").contains(line.strip());
            Runs.due("README.md", "a line that is no call with its answer: " + line, known ? 1 : 0, 1);
        }
    }
}
