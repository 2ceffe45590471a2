import java.io.IOException;
import java.nio.file.Files;
import java.nio.file.Path;
import java.util.ArrayList;
import java.util.HashMap;
import java.util.List;
import java.util.Map;
import java.util.TreeMap;
import java.util.regex.Matcher;
import java.util.regex.Pattern;

/**
 * LANGUAGE.md, rules 8 and 11: calls go at most eight deep, the face's method counted, and none calls itself. The
 * calls are found by their names in the text of the class. A call on another object may be one of any class that
 * has a method of that name, so what is found is no less deep than what can happen.
 */
public final class DepthTest {
    private static final int MOST = 8;
    private static final Path SOURCE = Path.of("src/main/java/BetweenLaws.java");
    private static final String FACE = "BetweenLaws";
    private static final Pattern CLASS = Pattern.compile("(?:public|private static) final class (\\w+) \\{");
    private static final Pattern METHOD = Pattern.compile(" +(?:[\\w\\[\\]]+ )*?(\\w+)\\([^()]*\\) \\{");
    private static final Pattern CALL = Pattern.compile("(new |[\\w\\])]\\.)?\\b(\\w+)\\(");
    private static final List<String> NO_CALLS = List.of("if", "for", "while", "switch", "return");

    /** The text of each method, by its class and its name; a constructor has its class's name. */
    private static final Map<String, StringBuilder> texts = new TreeMap<>();
    private static final Map<String, Integer> depths = new HashMap<>();

    public static void main(String[] args) throws IOException {
        readMethods(Files.readString(SOURCE).replaceAll("//[^\n]*", "").replaceAll("'[^'\n]*'", "' '"));
        Checks.due("the methods that are found", 1, texts.size() > 100 && texts.containsKey("BetweenLaws.told") ? 1 : 0);
        int deepest = 0;
        for (String method : texts.keySet()) {
            int depth = depth(method, new ArrayList<>());
            deepest = Math.max(deepest, depth);
            Checks.due("11: " + method + " goes " + depth + " deep", 1, depth <= MOST ? 1 : 0);
        }
        Checks.due("calls are found in the text", 1, deepest > MOST / 2 ? 1 : 0);
        Checks.close("DepthTest");
    }

    private static void readMethods(String text) {
        String inside = "";
        StringBuilder method = null;
        for (String line : text.split("\n")) {
            Matcher begun = CLASS.matcher(line.trim());
            if (begun.matches()) {
                inside = begun.group(1);
                continue;
            }
            Matcher head = METHOD.matcher(line);
            if (head.matches() && !NO_CALLS.contains(head.group(1))) {
                method = texts.computeIfAbsent(inside + "." + head.group(1), name -> new StringBuilder());
            } else if (method != null) {
                method.append(line).append('\n');
            }
        }
    }

    private static int depth(String method, List<String> above) {
        if (depths.containsKey(method)) return depths.get(method);
        if (above.contains(method)) {
            Checks.due("8: it calls itself: " + method + " by " + above, 0, 1);
            return 0;
        }
        above.add(method);
        int deepest = 0;
        Matcher call = CALL.matcher(texts.get(method));
        while (call.find()) {
            for (String called : called(method, call.group(1), call.group(2))) {
                deepest = Math.max(deepest, depth(called, above));
            }
        }
        above.remove(method);
        depths.put(method, 1 + deepest);
        return 1 + deepest;
    }

    /** The methods that a call may be: without an object of its own class, or the face's; else of any other one. */
    private static List<String> called(String caller, String on, String name) {
        String own = caller.substring(0, caller.indexOf('.'));
        List<String> found = new ArrayList<>();
        if (NO_CALLS.contains(name)) return found;
        if (on == null) {
            String method = texts.containsKey(own + "." + name) ? own + "." + name : FACE + "." + name;
            if (texts.containsKey(method)) found.add(method);
            else Checks.due("there is no method for the call " + name + " in " + caller, 0, 1);
            return found;
        }
        for (String method : texts.keySet()) {
            if (method.endsWith("." + name) && !method.startsWith(own + ".")) found.add(method);
        }
        return found;
    }
}
