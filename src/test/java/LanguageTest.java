import java.nio.file.Files;
import java.nio.file.Path;
import java.util.ArrayList;
import java.util.List;
import java.util.TreeMap;
import java.util.regex.Matcher;
import java.util.regex.Pattern;

/** The rules of LANGUAGE.md that the text of the class shows; it is run in the project's directory. */
public final class LanguageTest {
    private static int wrong = 0;

    private static final String[] FORBIDDEN = {
        "\\bthrows?\\b", "\\btry\\b", "\\bcatch\\b", "\\bsynchronized\\b", "\\bassert\\b", "->", "::", "\\w+Exact\\b",
        "\\bprotected\\b", "\\bhashCode\\b", "\\btoString\\b", "\\bequals\\b", "\\bdouble\\b", "\\bfloat\\b",
        "\\bpackage\\b", "\\bimport\\b", "\\bObject\\b", "\\bRandom\\b", "\\bThread\\b", "\\bSystem\\b", "@\\w+",
        "\\bArrays\\b", "\\bwhile\\b", "\\bstatic\\s*\\{", "\"", "[^\\x00-\\x7f]"};

    private static final Pattern METHOD = Pattern.compile(
        "^ +((?:public |private |static |final )*)(?:\\w+(?:\\[\\])* )?(\\w+)\\(([^()]*)\\) \\{$");

    private static final String FACE = " block code merger act tells isRight kind start stop step ready deep drawn about"
        + " result out read mark gather version below count digest ";

    private static void due(String what, boolean holds) {
        if (!holds) {
            wrong++;
            System.out.println("not as the rules ask: " + what);
        }
    }

    /** Comments become spaces, so that the lines stay where they are. */
    private static String withoutComments(String text) {
        Matcher m = Pattern.compile("/\\*.*?\\*/|//[^\\n]*", Pattern.DOTALL).matcher(text);
        StringBuilder left = new StringBuilder();
        while (m.find()) {
            m.appendReplacement(left, m.group().replaceAll("[^\\n]", " "));
        }
        return m.appendTail(left).toString();
    }

    private static int endOf(List<String> lines, int from) {
        int indent = lines.get(from).indexOf(lines.get(from).trim());
        for (int i = from + 1; i < lines.size(); i++) {
            if (lines.get(i).equals(" ".repeat(indent) + "}")) {
                return i;
            }
        }
        return lines.size();
    }

    private static final TreeMap<String, String> bodies = new TreeMap<>();

    private static void lookAtMethods(List<String> lines) {
        for (int i = 0; i < lines.size(); i++) {
            Matcher m = METHOD.matcher(lines.get(i));
            if (!m.matches() || m.group(2).matches("if|for|while|switch")) {
                continue;
            }
            String name = m.group(2);
            int end = endOf(lines, i);
            due(name + " has at most sixty lines", end - i <= 60);
            due(name + " has at most seven parameters", m.group(3).split(",").length <= 7);
            due(name + " is public, or has no public name", m.group(1).contains("public") || !FACE.contains(" " + name + " "));
            String body = String.join("\n", lines.subList(i + 1, Math.min(end, lines.size())));
            bodies.merge(name, body, (a, b) -> a + "\n" + b);
        }
    }

    private static int depth(String name, List<String> open) {
        due("no recursion: " + open + " " + name, !open.contains(name));
        if (open.contains(name)) {
            return 1;
        }
        List<String> now = new ArrayList<>(open);
        now.add(name);
        int deepest = 0;
        Matcher calls = Pattern.compile("(\\w+)\\(").matcher(bodies.get(name));
        while (calls.find()) {
            // methods that bear one name in two classes call one another only between them
            if (bodies.containsKey(calls.group(1)) && !(calls.group(1).equals(name) && isShared(name))) {
                deepest = Math.max(deepest, depth(calls.group(1), now));
            }
        }
        return 1 + deepest;
    }

    private static boolean isShared(String name) {
        return name.equals("write") || name.equals("begin");
    }

    public static void main(String[] args) throws Exception {
        String text = withoutComments(Files.readString(Path.of("src/main/java/BranchCells.java")));
        for (String pattern : FORBIDDEN) {
            Matcher m = Pattern.compile(pattern).matcher(text);
            due("'" + pattern + "' is not in the class", !m.find());
        }
        List<String> lines = List.of(text.split("\n"));
        lookAtMethods(lines);
        due("the methods were found", bodies.size() > 40);
        for (String name : FACE.trim().split(" ")) {
            due(name + " is there", bodies.containsKey(name));
            due(name + " calls at most eight deep", depth(name, List.of()) <= 8);
        }
        System.out.println(wrong == 0 ? "all is as due" : wrong + " are not as due");
        if (wrong != 0) {
            System.exit(1);
        }
    }
}
