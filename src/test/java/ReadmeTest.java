import java.io.IOException;
import java.lang.reflect.InvocationTargetException;
import java.lang.reflect.Method;
import java.lang.reflect.Modifier;
import java.nio.file.Files;
import java.nio.file.Path;
import java.util.ArrayList;
import java.util.HashMap;
import java.util.List;
import java.util.Map;
import java.util.Set;
import java.util.TreeMap;
import java.util.TreeSet;
import java.util.regex.Matcher;
import java.util.regex.Pattern;

/**
 * Makes the calls of the examples of README.md and compares the answers with those that stand behind them. A line that
 * is none of the few kinds known here is a fault, so that no example goes unread.
 */
public final class ReadmeTest {
    private static final Path README = Path.of("README.md");
    private static final Pattern TYPED = Pattern.compile(
            "for \\(char c : \"([^\"\\\\]*)\"\\.toCharArray\\(\\)\\) \\{ archive\\.append\\(c\\); }");
    private static final Pattern ASKED = Pattern.compile(
            "(?:int (\\w+) = )?archive\\.(\\w+)\\((.*)\\); +// (throws \\w+|[-.\\w]+)(?:: .*)?");
    private static final Pattern ARGUMENT = Pattern.compile(
            " *(archive\\.(\\w+)\\(([^()]*)\\)|-?\\d+|\\w+|'\\\\n'|'.')(?:,|$)");

    private static final Map<String, Method> METHODS = methods();
    private static final Set<String> CALLED = new TreeSet<>();
    private static InterleavedArchive archive = new InterleavedArchive();
    private static final Map<String, Integer> VARIABLES = new HashMap<>();
    private static int asked = 0;
    private static int wrong = 0;

    private static void fault(String text) {
        wrong++;
        System.out.println("README.md" + text);
    }

    private static void fault(int line, String text) {
        fault(", line " + line + ": " + text);
    }

    private static Map<String, Method> methods() {
        Map<String, Method> methods = new TreeMap<>();
        for (Method method : InterleavedArchive.class.getDeclaredMethods()) {
            if (Modifier.isPublic(method.getModifiers())) {
                methods.put(method.getName(), method);
            }
        }
        return methods;
    }

    /** Returns the arguments, or null if they are not understood. */
    private static List<Integer> argumentsOf(String words) {
        List<Integer> values = new ArrayList<>();
        Matcher matcher = ARGUMENT.matcher(words);
        int end = 0;
        while (end < words.length()) {
            if (!matcher.find(end) || matcher.start() != end) {
                return null;
            }
            Integer value = valueOf(matcher);
            if (value == null) {
                return null;
            }
            values.add(value);
            end = matcher.end();
        }
        return values;
    }

    private static Integer valueOf(Matcher argument) {
        String words = argument.group(1);
        if (argument.group(2) != null) {
            String answer = answer(argument.group(2), argumentsOf(argument.group(3)));
            return answer.matches("-?\\d+") ? Integer.valueOf(answer) : null;
        }
        if (words.startsWith("'")) {
            return words.equals("'\\n'") ? '\n' : (int) words.charAt(1);
        }
        return words.matches("-?\\d+") ? Integer.valueOf(words) : VARIABLES.get(words);
    }

    private static String answer(String name, List<Integer> values) {
        Method method = METHODS.get(name);
        if (method == null || values == null || method.getParameterCount() != values.size()) {
            return "no call of the class";
        }
        Object[] arguments = new Object[values.size()];
        for (int i = 0; i < arguments.length; i++) {
            boolean isCharacter = method.getParameterTypes()[i] == char.class;
            arguments[i] = isCharacter ? (Object) (char) values.get(i).intValue() : (Object) values.get(i);
        }
        CALLED.add(name);
        try {
            return String.valueOf(method.invoke(archive, arguments));
        } catch (InvocationTargetException e) {
            return "throws " + e.getCause().getClass().getSimpleName();
        } catch (IllegalAccessException e) {
            throw new AssertionError(e);
        }
    }

    private static void askLine(int number, String line) {
        Matcher typed = TYPED.matcher(line);
        Matcher call = ASKED.matcher(line);
        if (line.equals("InterleavedArchive archive = new InterleavedArchive();")) {
            archive = new InterleavedArchive();
            VARIABLES.clear();
        } else if (typed.matches()) {
            for (char c : typed.group(1).toCharArray()) {
                archive.append(c);
            }
        } else if (call.matches()) {
            asked++;
            String got = answer(call.group(2), argumentsOf(call.group(3)));
            if (!got.equals(call.group(4))) {
                fault(number, line.trim() + " -- the answer is " + got);
            }
            if (call.group(1) != null && got.matches("-?\\d+")) {
                VARIABLES.put(call.group(1), Integer.valueOf(got));
            }
        } else {
            fault(number, "is not understood: " + line);
        }
    }

    private static void askAll(List<String> lines) {
        boolean inExample = false;
        for (int i = 0; i < lines.size(); i++) {
            String line = lines.get(i);
            if (line.equals("```java")) {
                inExample = true;
                if (i + 1 >= lines.size() || !lines.get(i + 1).startsWith("InterleavedArchive archive = new")) {
                    fault(i + 1, "the example does not begin with an object of its own");
                }
            } else if (line.equals("```")) {
                inExample = false;
            } else if (inExample) {
                askLine(i + 1, line);
            }
        }
    }

    private static void dueEveryMethod(String text) {
        for (String name : METHODS.keySet()) {
            if (!CALLED.contains(name)) {
                fault(": " + name + " is called in no example");
            }
            if (!text.contains("`" + name + "`")) {
                fault(": `" + name + "` is not told in words");
            }
        }
    }

    public static void main(String[] args) throws IOException {
        List<String> lines = Files.readAllLines(README);
        askAll(lines);
        dueEveryMethod(String.join("\n", lines));
        if (!lines.contains("    .ci/run")) {
            fault(": it is not told how to run the tests");
        }
        System.out.println("README.md: " + asked + " calls, " + CALLED.size() + " of " + METHODS.size() + " methods, "
                + wrong + " wrong");
        if (wrong > 0 || asked == 0) {
            System.exit(1);
        }
    }
}
