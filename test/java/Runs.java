import java.lang.reflect.Method;
import java.util.ArrayList;
import java.util.LinkedHashMap;
import java.util.List;
import java.util.Map;

/**
 * Runs of calls told as rows, each run on a new object:
 *
 *   road 10 0 2 -> 0        a call and the answer that is due (a number, or a name such as UNKNOWN)
 *   pad =75A*               the PAD is wiped and these signs are said, one by one
 *   # why this run is here
 */
final class Runs {
    private static final Map<String, Method> CALLS = callsOf(PanTales.class);
    private static int wrong = 0;
    private static int asked = 0;

    private Runs() { }

    static Map<String, Method> callsOf(Class<?> kind) {
        Map<String, Method> calls = new LinkedHashMap<>();
        for (Method method : kind.getDeclaredMethods()) {
            if (java.lang.reflect.Modifier.isPublic(method.getModifiers())) {
                calls.put(method.getName(), method);
            }
        }
        return calls;
    }

    static long call(Object on, Method method, int... numbers) {
        Object[] boxed = new Object[numbers.length];
        for (int i = 0; i < numbers.length; i++) {
            boxed[i] = numbers[i];
        }
        try {
            return ((Number) method.invoke(on, boxed)).longValue();
        } catch (ReflectiveOperationException thrown) {
            throw new IllegalStateException(method.getName() + " threw " + thrown.getCause(), thrown);
        }
    }

    static void run(String about, String rows) {
        after(about, rows);
    }

    /** A new object behind these rows. */
    static PanTales after(String about, String rows) {
        PanTales on = new PanTales();
        go(on, about, rows);
        return on;
    }

    static void go(PanTales on, String about, String rows) {
        for (String line : rows.split("\n")) {
            String row = line.strip();
            if (row.startsWith("pad")) {
                sayAll(on, about, row.substring(3).strip());
            } else if (!row.isEmpty() && !row.startsWith("#")) {
                answer(on, about, row);
            }
        }
    }

    /** What is answered to these calls, whatever is due. */
    static List<Long> ask(PanTales on, List<String> calls) {
        List<Long> answers = new ArrayList<>();
        for (String each : calls) {
            answers.add(asked(on, each));
        }
        return answers;
    }

    /** Rows by which each TALE but the last fades into the next one, on a new object. */
    static String chain() {
        StringBuilder rows = new StringBuilder();
        for (int tale = 0; tale < 9; tale++) {
            rows.append("fade ").append(tale).append(' ').append(tale + 1).append(" -> ").append(tale).append('\n');
        }
        return rows.toString();
    }

    private static void sayAll(PanTales on, String about, String text) {
        on.wipe();
        for (int i = 0; i < text.length(); i++) {
            due(about, "say " + text.charAt(i) + " of " + text, on.say(text.charAt(i)), i + 1);
        }
    }

    private static void answer(PanTales on, String about, String row) {
        String[] sides = row.split("->");
        due(about, sides[0].strip(), asked(on, sides[0].strip()), number(sides[1].strip()));
    }

    private static long asked(PanTales on, String row) {
        String[] words = row.split(" +");
        int[] numbers = new int[words.length - 1];
        for (int i = 0; i < numbers.length; i++) {
            numbers[i] = (int) number(words[i + 1]);
        }
        return call(on, CALLS.get(words[0]), numbers);
    }

    private static long number(String word) {
        switch (word) {
            case "UNKNOWN": return -1;
            case "OUTSIDE": return -2;
            case "STATE": return -3;
            case "FULL": return -4;
            case "NO": return -5;
            case "NONE": return -6;
            case "GONE": return -1000000000000000002L;
            case "LEAST": return Integer.MIN_VALUE;
            case "MOST": return Integer.MAX_VALUE;
            default: return Long.parseLong(word);
        }
    }

    static void due(String about, String call, long got, long want) {
        asked++;
        if (got != want) {
            wrong++;
            System.out.println(about + ": " + call + " answered " + got + ", due is " + want);
        }
    }

    static void end() {
        System.out.println(wrong == 0 ? asked + " answers are as due" : wrong + " of " + asked + " answers are not as due");
        if (wrong != 0) {
            System.exit(1);
        }
    }
}
