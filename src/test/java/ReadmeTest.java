import java.lang.reflect.Method;
import java.nio.file.Files;
import java.nio.file.Path;
import java.util.HashMap;
import java.util.List;
import java.util.Map;
import java.util.TreeSet;
import java.util.regex.Matcher;
import java.util.regex.Pattern;

/** What README.md tells of the class: its example answers as told, and every call of the face is named there. */
public final class ReadmeTest {
    private static int wrong = 0;

    private static final Pattern CALL = Pattern.compile("(?:int (\\w+) = )?x\\.(\\w+)\\(([^)]*)\\);(?:\\s*//\\s*(.*))?");

    private static void due(String what, Object got, Object want) {
        if (!got.equals(want)) {
            wrong++;
            System.out.println("README.md: " + what + " answered " + got + ", due is " + want);
        }
    }

    private static Method named(String name) {
        for (Method m : BranchCells.class.getDeclaredMethods()) {
            if (m.getName().equals(name)) {
                return m;
            }
        }
        throw new IllegalStateException("README.md names a call that is not there: " + name);
    }

    private static Object argument(String text, Class<?> type, Map<String, Long> names) {
        long value = names.containsKey(text) ? names.get(text) : Long.parseLong(text);
        return type == int.class ? (Object) (int) value : (Object) value;
    }

    private static long answer(BranchCells x, Matcher line, Map<String, Long> names) throws Exception {
        Method m = named(line.group(2));
        String[] texts = line.group(3).isEmpty() ? new String[0] : line.group(3).split(", *");
        Object[] values = new Object[texts.length];
        for (int i = 0; i < texts.length; i++) {
            values[i] = argument(texts[i], m.getParameterTypes()[i], names);
        }
        return ((Number) m.invoke(x, values)).longValue();
    }

    private static void example(List<String> lines) throws Exception {
        BranchCells x = new BranchCells();
        Map<String, Long> names = new HashMap<>();
        int told = 0;
        for (String line : lines) {
            Matcher m = CALL.matcher(line);
            if (!m.matches()) {
                due("a line of the example", line, "BranchCells x = new BranchCells();");
                continue;
            }
            long got = answer(x, m, names);
            if (m.group(1) != null) {
                names.put(m.group(1), got);
            }
            boolean refused = got < 0;
            due(line + " is refused", refused, false);
            if (m.group(4) != null && m.group(4).matches("-?\\d+")) {
                due(line, got, Long.parseLong(m.group(4)));
                told++;
            }
        }
        due("the example has answers", told >= 5, true);
    }

    private static TreeSet<String> face() {
        TreeSet<String> names = new TreeSet<>();
        for (Method m : BranchCells.class.getDeclaredMethods()) {
            if ((m.getModifiers() & java.lang.reflect.Modifier.PUBLIC) != 0) {
                names.add(m.getName());
            }
        }
        return names;
    }

    private static void table(String text) {
        TreeSet<String> told = new TreeSet<>();
        for (String row : text.split("\n")) {
            Matcher m = Pattern.compile("`(\\w+)\\([^)`]*\\)`").matcher(row);
            while (row.startsWith("| `") && m.find()) {
                told.add(m.group(1));
            }
        }
        due("the calls of the table", told, face());
    }

    public static void main(String[] args) throws Exception {
        String text = Files.readString(Path.of("README.md"));
        int from = text.indexOf("```java\n") + 8;
        example(List.of(text.substring(from, text.indexOf("```", from)).split("\n")));
        table(text);
        for (Path test : Files.list(Path.of("src/test/java")).toList()) {
            String name = test.getFileName().toString().replace(".java", "");
            due("names " + name, text.contains("`" + name + "`"), true);
        }
        System.out.println(wrong == 0 ? "all is as due" : wrong + " are not as due");
        if (wrong != 0) {
            System.exit(1);
        }
    }
}
