import java.io.IOException;
import java.nio.file.Files;
import java.nio.file.Path;
import java.util.ArrayList;
import java.util.List;

/** Sentences of the document, each with rows of its own whose answers would not be as due, were the sentence broken. */
final class Edges {
    private static final Path DOCUMENT = Path.of("../shared/DOC.md");
    private static final String TOLD = document();
    /** Calls that are asked ahead of a refused call and behind it: together they show all that an object holds. */
    private static final List<String> ALL = all();

    private Edges() { }

    private static String document() {
        try {
            return Files.exists(DOCUMENT) ? Files.readString(DOCUMENT).replaceAll("\\s+", " ") : "";
        } catch (IOException unread) {
            throw new IllegalStateException(unread);
        }
    }

    private static List<String> all() {
        List<String> calls = new ArrayList<>(List.of("fault", "judge 0", "judge 1", "judge 2", "fits -1", "fits 0", "ask 0",
                "ask 1"));
        for (int what = 0; what < 1211; what++) {
            boolean road = what >= 1000 && what % 20 <= 10;
            boolean house = what >= 100 && what < 200 && what % 10 <= 2;
            if (road || house || what < 6 || (what >= 10 && what < 20)) {
                calls.add("told " + what);
            }
        }
        for (int what = 0; what < 4; what++) {
            calls.add("pan " + what);
        }
        return calls;
    }

    /** The sentence must stand in the document as it is quoted here (it is not asked where the document is away). */
    static void edge(String sentence, String rows) {
        if (!TOLD.isEmpty()) {
            Runs.due("quoted", sentence, TOLD.contains(sentence) ? 1 : 0, 1);
        }
        Runs.run(sentence, rows);
    }

    /** Behind these rows each of these calls answers as told, and all is as it was. */
    static void unchanged(String sentence, String rows, String... calls) {
        for (String call : calls) {
            PanTales on = Runs.after(sentence, rows);
            List<Long> before = Runs.ask(on, ALL);
            Runs.go(on, sentence, call);
            List<Long> behind = Runs.ask(on, ALL);
            for (int i = 0; i < ALL.size(); i++) {
                Runs.due(sentence, ALL.get(i) + " behind " + call, behind.get(i), before.get(i));
            }
        }
    }

    /** Rows by which the PAN is as hot as that (0 to 88) in HOUSE B, carried past A: TALE 3, all ROADS new. */
    static String heated(int heat) {
        int tens = (heat + 11) / 10;
        int less = 10 * tens - heat;
        int first = Math.min(9, less - 1);
        return "road 10 0 " + first + " -> 0 \n road 0 1 " + (less - first) + " -> 0 \n pad =3" + tens + "AB \n pan 1 -> " + heat
                + "\n";
    }
}
