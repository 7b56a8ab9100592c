import java.io.IOException;
import java.lang.reflect.Method;
import java.lang.reflect.Modifier;
import java.nio.file.Files;
import java.nio.file.Path;
import java.util.List;
import java.util.regex.Matcher;
import java.util.regex.Pattern;

/**
 * What README.md says of the use is so: its example answers what stands behind each call, and its table
 * has each call of the face. It is run from the project's directory, where README.md lies.
 */
public final class PacketStoresReadme {
    private static final Pattern CALL = Pattern.compile("x\\.(\\w+)\\(([^)]*)\\); +// (.*)");
    private static final Pattern ANSWER = Pattern.compile("= (-?\\d+|true|false),.*");
    private static int wrong = 0;

    private static void report(String what) {
        wrong++;
        System.out.println("README.md: " + what);
    }

    private static Method named(String name) {
        for (Method m : PacketStores.class.getDeclaredMethods()) {
            if (Modifier.isPublic(m.getModifiers()) && m.getName().equals(name)) {
                return m;
            }
        }
        return null;
    }

    private static Object answer(PacketStores x, Method m, String arguments) throws ReflectiveOperationException {
        String[] texts = arguments.split(", ");
        Object[] values = new Object[texts.length];
        for (int i = 0; i < texts.length; i++) {
            values[i] = Integer.valueOf(texts[i]);
        }
        return m.invoke(x, values);
    }

    private static void callOfExample(PacketStores x, String line) {
        Matcher call = CALL.matcher(line);
        if (!call.matches()) {
            report("no call with a remark: " + line);
            return;
        }
        Method m = named(call.group(1));
        if (m == null) {
            report("no such call: " + line);
            return;
        }
        try {
            String got = String.valueOf(answer(x, m, call.group(2)));
            Matcher told = ANSWER.matcher(call.group(3));
            String want = told.matches() ? told.group(1) : "null";
            if (!got.equals(want)) {
                report(line + " answered " + got);
            }
        } catch (ReflectiveOperationException | IllegalArgumentException e) {
            report(line + " threw " + (e.getCause() == null ? e : e.getCause()));
        }
    }

    private static void example(List<String> lines) {
        int first = lines.indexOf("```java");
        int calls = 0;
        PacketStores x = new PacketStores();
        for (int i = first + 2; first >= 0 && i < lines.size() && !lines.get(i).equals("```"); i++) {
            callOfExample(x, lines.get(i));
            calls++;
        }
        if (calls == 0) {
            report("there is no example");
        }
    }

    private static void table(List<String> lines) {
        for (Method m : PacketStores.class.getDeclaredMethods()) {
            String start = "| `" + m.getName() + "(";
            if (Modifier.isPublic(m.getModifiers()) && lines.stream().noneMatch(l -> l.startsWith(start))) {
                report("the table does not have " + m.getName());
            }
        }
    }

    public static void main(String[] args) throws IOException {
        List<String> lines = Files.readAllLines(Path.of("README.md"));
        example(lines);
        table(lines);
        System.out.println(wrong == 0 ? "what README.md says is so" : wrong + " things in README.md are not so");
        if (wrong != 0) {
            System.exit(1);
        }
    }
}
