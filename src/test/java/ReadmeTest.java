import java.io.IOException;
import java.nio.file.Files;
import java.nio.file.Path;
import java.util.HashMap;
import java.util.Map;
import java.util.regex.Matcher;
import java.util.regex.Pattern;

/** The example of README.md: each call in it answers what stands behind it. */
public final class ReadmeTest {
    private static final Pattern SAID = Pattern.compile("for \\(char sign : \"(.+)\"\\.toCharArray\\(\\)\\) x\\.say\\(sign\\);");
    private static final Pattern CALL = Pattern.compile(
        "(?:int (\\w+) = )?x\\.(\\w+)\\(([^)]*)\\); +// (?:BetweenLaws\\.)?(-?\\w+)(?::.*)?");
    private static final Map<String, Integer> NAMES = new HashMap<>(Map.of("UNKNOWN", BetweenLaws.UNKNOWN,
        "OUTSIDE", BetweenLaws.OUTSIDE, "STATE", BetweenLaws.STATE, "FULL", BetweenLaws.FULL, "NO", BetweenLaws.NO,
        "NONE", BetweenLaws.NONE));

    public static void main(String[] args) throws IOException {
        String text = Files.readString(Path.of("README.md"));
        int start = text.indexOf("```java\n");
        int end = text.indexOf("\n```", start + 1);
        Checks.due("README.md has an example", 1, start >= 0 && end > start ? 1 : 0);
        BetweenLaws x = null;
        for (String line : text.substring(start + 8, end).split("\n")) {
            if (line.equals("BetweenLaws x = new BetweenLaws();")) x = new BetweenLaws();
            else if (!line.isEmpty()) follow(x, line);
        }
        Checks.close("ReadmeTest");
    }

    private static void follow(BetweenLaws x, String line) {
        Matcher said = SAID.matcher(line);
        if (said.matches()) {
            for (char sign : said.group(1).toCharArray()) x.say(sign);
            return;
        }
        Matcher call = CALL.matcher(line);
        if (!call.matches()) {
            Checks.due("README.md: this line is no call: " + line, 0, 1);
            return;
        }
        int[] a = new int[3];
        String[] given = call.group(3).split(", ");
        for (int n = 0; n < given.length; n++) a[n] = number(given[n]);
        int got = Calls.answer(x, call.group(2), a[0], a[1], a[2]);
        Checks.due("README.md: " + line, number(call.group(4)), got);
        if (call.group(1) != null) NAMES.put(call.group(1), got);
    }

    private static int number(String text) {
        return NAMES.containsKey(text) ? NAMES.get(text) : Integer.parseInt(text);
    }
}
