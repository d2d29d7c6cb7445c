import java.io.IOException;
import java.lang.reflect.Constructor;
import java.lang.reflect.Field;
import java.lang.reflect.Method;
import java.lang.reflect.Modifier;
import java.nio.file.Files;
import java.nio.file.Path;
import java.util.ArrayList;
import java.util.List;
import java.util.TreeSet;

/** The public face: the document's lines of code, and each promise's own line, are those of the program. */
final class TheFace {
    private static final int PROMISES = 34;

    private TheFace() {
    }

    static void look() throws IOException {
        List<String> lines = lines();
        inTheProgram(lines);
        List<String> calls = calls(lines);
        Checks.holds("no other than these: " + declared(), declared().equals(new TreeSet<>(withoutNames(calls))));
        Checks.same("a promise for each call", calls.size(), PROMISES);
        for (int k = 0; k < calls.size(); k++) {
            promise(k + 1, calls.get(k));
        }
    }

    /** The lines of the document's code. */
    private static List<String> lines() {
        Document.section("The public face");
        String words = Document.words();
        String open = "```java\n";
        int from = words.indexOf(open);
        int to = words.indexOf("```", from + 1);
        Checks.holds("the document has its code", from >= 0 && to > from);
        return from < 0 || to < from ? List.of() : List.of(words.substring(from + open.length(), to).split("\n"));
    }

    /** All of them stand in the program, in the document's order and with the document's names. */
    private static void inTheProgram(List<String> lines) throws IOException {
        String program = Files.readString(Path.of("src/main/java/NineBoards.java"));
        int at = 0;
        for (String line : lines) {
            Document.says(line);
            boolean call = line.contains("(");
            String asked = "\n" + (call ? line.replace(";", " {") : line) + "\n";
            int next = program.indexOf(asked, at);
            Checks.holds("the program has, behind what is ahead of it: " + line, next >= at);
            at = Math.max(at, next);
        }
    }

    private static List<String> calls(List<String> lines) {
        List<String> calls = new ArrayList<>();
        for (String line : lines) {
            if (line.contains("(")) {
                calls.add(line.strip().replace("public ", "").replace(";", ""));
            }
        }
        return calls;
    }

    private static List<String> withoutNames(List<String> calls) {
        List<String> all = new ArrayList<>(List.of("int NONE", "int NOTHING"));
        for (String call : calls) {
            all.add(call.replaceAll("(int|long|boolean) \\w+(?=[,)])", "$1"));
        }
        return all;
    }

    /** What can be seen of the class from without. */
    private static TreeSet<String> declared() {
        TreeSet<String> all = new TreeSet<>();
        for (Method m : NineBoards.class.getDeclaredMethods()) {
            if (!Modifier.isPrivate(m.getModifiers())) {
                all.add(m.getReturnType() + " " + m.getName() + "(" + types(m.getParameterTypes()) + ")");
            }
        }
        for (Constructor<?> c : NineBoards.class.getDeclaredConstructors()) {
            if (!Modifier.isPrivate(c.getModifiers())) {
                all.add("NineBoards(" + types(c.getParameterTypes()) + ")");
            }
        }
        for (Field f : NineBoards.class.getDeclaredFields()) {
            if (!Modifier.isPrivate(f.getModifiers())) {
                all.add(f.getType() + " " + f.getName());
            }
        }
        return all;
    }

    private static String types(Class<?>... all) {
        StringBuilder b = new StringBuilder();
        for (Class<?> c : all) {
            b.append(b.length() > 0 ? ", " : "").append(c);
        }
        return b.toString();
    }

    /** The promises come in the order of the calls, each under the name of its own. */
    private static void promise(int number, String call) {
        String name = call.substring(call.indexOf(' ') + 1, call.indexOf('('));
        Document.section("Promise " + number + ": " + (number == 1 ? "A new object" : name));
        Document.says("`" + call + "`:");
        Checks.holds(call + " is there", declared().containsAll(withoutNames(List.of(call))));
    }
}
