import java.io.IOException;
import java.lang.reflect.Constructor;
import java.lang.reflect.Field;
import java.lang.reflect.Method;
import java.lang.reflect.Modifier;
import java.nio.file.Files;
import java.nio.file.Path;
import java.util.Arrays;
import java.util.Set;
import java.util.TreeSet;
import java.util.regex.Matcher;
import java.util.regex.Pattern;

/** The class's face as the document has it, and those rules of LANGUAGE.md that can be looked up. */
public final class LanguageTest {
    private static final Path SOURCE = Path.of("src/main/java/BetweenLaws.java");
    private static final String FACE = "about(int,int) all(int,int) anew(int) brief(int) caught(int) "
        + "change(int,int,int) fault() force(int,int) gives(int,int) governs(int,int) hangs(int,int) image(int) "
        + "law(int,int) meets(int,int,int) mend(int,int,int) move(int,int,int) of(int,int) open(int) part(int,int,int) "
        + "passage(int,int,int) piece(int,int) read(int,int,int) restore(int) route(int,int,int) say(int) set(int,int) "
        + "sum(int) taken(int) term(int,int,int) those(int,int) told(int) ways(int,int) whole(int,int) why(int,int,int) "
        + "wipe() wish(int,int)";

    public static void main(String[] args) throws IOException {
        face();
        members();
        words();
        Checks.close("LanguageTest");
    }

    private static void hold(String rule, boolean holds) {
        Checks.due(rule, 1, holds ? 1 : 0);
    }

    private static void face() {
        Class<?> face = BetweenLaws.class;
        hold("1: public and final", Modifier.isPublic(face.getModifiers()) && Modifier.isFinal(face.getModifiers()));
        hold("1: one constructor", face.getDeclaredConstructors().length == 1 && face.getConstructors().length == 1);
        Set<String> methods = new TreeSet<>();
        for (Method method : face.getDeclaredMethods()) {
            if (Modifier.isPrivate(method.getModifiers())) continue;
            hold("1: an int is answered by " + method.getName(), method.getReturnType() == int.class
                && Modifier.isPublic(method.getModifiers()) && !Modifier.isStatic(method.getModifiers()));
            StringBuilder name = new StringBuilder(method.getName()).append('(');
            for (Class<?> type : method.getParameterTypes()) name.append(name.toString().endsWith("(") ? "" : ",").append(type);
            methods.add(name.append(')').toString());
        }
        hold("1: the methods are " + methods, methods.equals(new TreeSet<>(Arrays.asList(FACE.split(" ")))));
        Set<String> constants = new TreeSet<>();
        for (Field field : face.getDeclaredFields()) {
            int modifiers = field.getModifiers();
            if (Modifier.isPrivate(modifiers)) continue;
            hold("1: a constant is " + field, Modifier.isPublic(modifiers) && Modifier.isStatic(modifiers)
                && Modifier.isFinal(modifiers) && field.getType() == int.class);
            constants.add(field.getName());
        }
        hold("1: the constants are " + constants,
            constants.equals(Set.of("UNKNOWN", "OUTSIDE", "STATE", "FULL", "NO", "NONE")));
    }

    private static void members() {
        Set<String> names = new TreeSet<>();
        for (Method method : BetweenLaws.class.getMethods()) {
            if (method.getDeclaringClass() == BetweenLaws.class) names.add(method.getName());
        }
        Class<?>[] inside = BetweenLaws.class.getDeclaredClasses();
        hold("11: some twelve classes", inside.length + 1 <= 12);
        fields(BetweenLaws.class);
        for (Class<?> one : inside) {
            int modifiers = one.getModifiers();
            hold("1: private or package-visible: " + one, !Modifier.isPublic(modifiers) && !Modifier.isProtected(modifiers));
            hold("2: static: " + one, Modifier.isStatic(modifiers));
            fields(one);
            parameters(one, names);
        }
        for (Method method : BetweenLaws.class.getDeclaredMethods()) {
            boolean hidden = Modifier.isPrivate(method.getModifiers());
            hold("1: the name of a public one: " + method, !hidden || !names.contains(method.getName()));
        }
    }

    private static void fields(Class<?> one) {
        int count = 0;
        for (Field field : one.getDeclaredFields()) {
            boolean still = Modifier.isStatic(field.getModifiers());
            hold("5: static fields are final: " + field, !still || Modifier.isFinal(field.getModifiers()));
            if (!still) count++;
        }
        hold("11: some twenty fields: " + one, count <= 20);
    }

    private static void parameters(Class<?> one, Set<String> names) {
        for (Method method : one.getDeclaredMethods()) {
            hold("11: seven parameters: " + method, method.getParameterCount() <= 7);
            hold("1: the name of a public one: " + method, !names.contains(method.getName()));
            hold("6: " + method, !Set.of("equals", "hashCode", "toString").contains(method.getName()));
        }
        for (Constructor<?> made : one.getDeclaredConstructors()) {
            hold("11: seven parameters: " + made, made.getParameterCount() <= 7);
        }
    }

    /** The text without its comments and what stands between quotes: words and signs that it may not have. */
    private static void words() throws IOException {
        String text = Files.readString(SOURCE);
        hold("3: signs 0 to 127", text.chars().allMatch(sign -> sign < 128));
        String code = text.replaceAll("//[^\n]*", "").replaceAll("'[^'\n]*'", "' '");
        String[] no = {"package", "import", "throw", "throws", "try", "catch", "finally", "synchronized", "assert", "interface",
            "instanceof", "protected", "volatile", "transient", "native", "Object", "Exception", "System\\.(?!arraycopy)",
            "\\w+Exact", "var", "record", "enum"};
        for (String word : no) {
            Matcher found = Pattern.compile("\\b" + word + "\\b").matcher(code);
            hold("4, 6: no " + word, !found.find());
        }
        hold("2: no lambda, no method reference", !code.contains("->") && !code.contains("::"));
        hold("10: no text is joined", !code.contains("\""));
        hold("2: no annotation", !code.contains("@"));
        hold("9: no while but one that counts down", code.split("\\bwhile\\b", -1).length <= 2);
        lengths(code);
    }

    private static void lengths(String code) {
        String[] lines = code.split("\n");
        int start = 0;
        int depth = 0;
        for (int i = 0; i < lines.length; i++) {
            boolean opens = lines[i].matches(" +[\\w<>\\[\\] ]+\\([\\w\\[\\], ]*\\) \\{") && !lines[i].matches(" +(for|if|while|switch).*");
            if (opens) {
                start = i;
                depth = lines[i].indexOf(lines[i].trim());
            }
            boolean closes = lines[i].trim().equals("}") && lines[i].indexOf('}') == depth && start > 0;
            if (!closes) continue;
            hold("11: some sixty lines: " + lines[start].trim(), i - start < 60);
            start = 0;
        }
    }
}
