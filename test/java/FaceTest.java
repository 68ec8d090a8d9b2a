import java.lang.reflect.Constructor;
import java.lang.reflect.Field;
import java.lang.reflect.Method;
import java.lang.reflect.Modifier;
import java.nio.file.Files;
import java.nio.file.Path;
import java.util.List;
import java.util.Set;
import java.util.TreeSet;
import java.util.regex.Matcher;
import java.util.regex.Pattern;

/** The public face, and those rules of LANGUAGE.md that can be seen from names and words. */
public final class FaceTest {
    private static final String FACE = """
            int road(int,int,int) | int house(int,int,int) | int tell(int,int) | int fade(int,int) | int say(int)
            | int wipe() | int fault() | int judge(int) | int behind(int,int) | int pan(int) | int holds(int)
            | int other(int) | int done() | int near(int,int,int) | int round(int,int) | int keep(int,int)
            | int faded(int,int) | int seen(int,int) | int forget() | int fits(int) | int ask(int)
            | long row(int,int,int,int,int,int) | int embers(int,int) | int year(int,int,int) | int image(int)
            | int restore(int) | int told(int)""";

    public static void main(String[] args) throws Exception {
        face();
        constants();
        members();
        words(Files.readString(Path.of("src/main/java/PanTales.java")));
        lengths(Files.readAllLines(Path.of("src/main/java/PanTales.java")));
        Runs.end();
    }

    private static void yes(String what, boolean is) {
        Runs.due("the face and the language", what, is ? 1 : 0, 1);
    }

    private static void face() {
        Set<String> due = new TreeSet<>();
        for (String call : FACE.split("\\|")) {
            due.add(call.strip());
        }
        Set<String> found = new TreeSet<>();
        for (Method method : PanTales.class.getDeclaredMethods()) {
            if (Modifier.isPublic(method.getModifiers())) {
                String numbers = String.join(",", List.of(method.getParameterTypes()).stream().map(Class::getName).toList());
                found.add(method.getReturnType() + " " + method.getName() + "(" + numbers + ")");
            }
        }
        yes("calls: " + found, due.equals(found));
        yes("public and final", Modifier.isPublic(PanTales.class.getModifiers()) && Modifier.isFinal(PanTales.class.getModifiers()));
        yes("one public constructor without arguments", PanTales.class.getConstructors().length == 1
                && PanTales.class.getDeclaredConstructors().length == 1
                && PanTales.class.getConstructors()[0].getParameterCount() == 0);
    }

    private static void constants() {
        Runs.due("constants", "UNKNOWN", PanTales.UNKNOWN, -1);
        Runs.due("constants", "OUTSIDE", PanTales.OUTSIDE, -2);
        Runs.due("constants", "STATE", PanTales.STATE, -3);
        Runs.due("constants", "FULL", PanTales.FULL, -4);
        Runs.due("constants", "NO", PanTales.NO, -5);
        Runs.due("constants", "NONE", PanTales.NONE, -6);
        Runs.due("constants", "GONE", PanTales.GONE, -1000000000000000000L);
    }

    /** Rules 1, 2, 5 and 11. */
    private static void members() {
        Set<String> names = Set.of("UNKNOWN", "OUTSIDE", "STATE", "FULL", "NO", "NONE", "GONE");
        Set<String> calls = Runs.callsOf(PanTales.class).keySet();
        for (Field field : PanTales.class.getDeclaredFields()) {
            boolean open = Modifier.isPublic(field.getModifiers());
            yes(field.getName(), open == names.contains(field.getName()) && (open || Modifier.isPrivate(field.getModifiers())));
        }
        for (Method method : PanTales.class.getDeclaredMethods()) {
            boolean open = Modifier.isPublic(method.getModifiers());
            yes(method.getName(), open || (Modifier.isPrivate(method.getModifiers()) && !calls.contains(method.getName())));
        }
        yes("at most twelve classes", PanTales.class.getDeclaredClasses().length < 12);
        for (Class<?> inside : PanTales.class.getDeclaredClasses()) {
            yes(inside.getName(), Modifier.isStatic(inside.getModifiers()) && !Modifier.isPublic(inside.getModifiers())
                    && !Modifier.isProtected(inside.getModifiers()));
            int own = 0;
            for (Field field : inside.getDeclaredFields()) {
                yes(field + " final", !Modifier.isStatic(field.getModifiers()) || Modifier.isFinal(field.getModifiers()));
                own += Modifier.isStatic(field.getModifiers()) ? 0 : 1;
            }
            yes(inside.getName() + " fields", own <= 20);
            for (Method method : inside.getDeclaredMethods()) {
                yes(method + " parameters", method.getParameterCount() <= 7);
                yes(method + " name", !calls.contains(method.getName()));
            }
            for (Constructor<?> made : inside.getDeclaredConstructors()) {
                yes(made + " parameters", made.getParameterCount() <= 7);
            }
        }
    }

    /** Rule 11: a method has some sixty lines at the most. Members of the class stand 4 signs in, those of classes inside 8. */
    private static void lengths(List<String> lines) {
        Pattern head = Pattern.compile("( {4}| {8})(?!for |if |while |switch )[^ /*].*\\) \\{");
        for (int from = 0; from < lines.size(); from++) {
            Matcher found = head.matcher(lines.get(from));
            if (found.matches()) {
                int to = from;
                while (to < lines.size() - 1 && !lines.get(to).equals(found.group(1) + "}")) {
                    to++;
                }
                yes(lines.get(from).strip() + " " + (to - from + 1) + " lines", to - from < 60);
            }
        }
    }

    /** Rules 4, 6, 9 and 13: words that may not stand in the program, comments left out. */
    private static void words(String source) {
        String code = source.replaceAll("(?s)/\\*.*?\\*/", "").replaceAll("//[^\n]*", "");
        for (String word : List.of("throw", "throws", "try", "catch", "finally", "synchronized", "assert", "instanceof",
                "volatile", "transient", "native", "Object", "System\\.(?!arraycopy)\\w+", "Math\\.\\w+Exact", "Random",
                "Thread", "hashCode", "toString", "->", "::", "while \\(true\\)", "for \\(;;")) {
            Matcher found = Pattern.compile(Character.isLetter(word.charAt(0)) ? "\\b" + word : word).matcher(code);
            yes(word + (found.find() ? " at " + found.start() : ""), !found.reset().find());
        }
        Matcher imports = Pattern.compile("import ([\\w.]+);").matcher(code);
        while (imports.find()) {
            yes(imports.group(), imports.group(1).equals("java.util.Arrays"));
        }
        for (char sign : source.toCharArray()) {
            if (sign > 126) {
                yes("a sign above 126: " + (int) sign, false);
            }
        }
    }
}
