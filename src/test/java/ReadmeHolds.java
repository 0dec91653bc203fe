import java.lang.reflect.Method;
import java.lang.reflect.Modifier;
import java.nio.file.Files;
import java.nio.file.Path;
import java.util.HashMap;
import java.util.Map;
import java.util.regex.Matcher;
import java.util.regex.Pattern;

/** What README.md says of the calls is so. The argument is the path of HailNames.java, from which README.md is found. */
public final class ReadmeHolds {
    private static final Pattern SAID = Pattern.compile("for \\(char sign : \"([^\"]*)\"\\.toCharArray\\(\\)\\)");
    private static final Pattern CALL = Pattern.compile("^hail\\.(\\w+)\\(([-\\d, ]*)\\); *// (-?\\d+): .+$");
    private static int wrong = 0;

    private static void hold(boolean so, String what) {
        if (!so) {
            wrong++;
            System.out.println("README.md: " + what);
        }
    }

    public static void main(String[] args) throws Exception {
        if (args.length == 0) {
            System.out.println("the path of HailNames.java is missing");
            System.exit(1);
        }
        Path root = Path.of(args[0]).toAbsolutePath().normalize().getParent().resolve("../../..").normalize();
        String readme = Files.readString(root.resolve("README.md"));
        Map<String, Method> calls = publicCalls();
        everyCallIsInTheTable(readme, calls);
        theExampleAnswersAsTold(readme, calls);
        System.out.println(wrong == 0 ? "README.md holds" : wrong + " things are not as README.md says");
        if (wrong != 0) {
            System.exit(1);
        }
    }

    private static Map<String, Method> publicCalls() {
        Map<String, Method> calls = new HashMap<>();
        for (Method m : HailNames.class.getDeclaredMethods()) {
            if (Modifier.isPublic(m.getModifiers())) {
                calls.put(m.getName(), m);
            }
        }
        return calls;
    }

    private static int numbersIn(String list) {
        return list.isBlank() ? 0 : list.split(",").length;
    }

    private static void everyCallIsInTheTable(String readme, Map<String, Method> calls) {
        for (Method m : calls.values()) {
            boolean found = false;
            for (String line : readme.split("\n")) {
                Matcher named = Pattern.compile("`" + m.getName() + "\\(([^)]*)\\)`").matcher(line);
                while (line.startsWith("|") && named.find()) {
                    found |= numbersIn(named.group(1)) == m.getParameterCount();
                }
            }
            hold(found, "the table has no " + m.getName() + " with " + m.getParameterCount() + " numbers");
        }
    }

    private static void theExampleAnswersAsTold(String readme, Map<String, Method> calls) throws Exception {
        int from = readme.indexOf("```java\n");
        int to = readme.indexOf("\n```\n", from);
        hold(from >= 0 && to > from, "there is no example");
        if (from < 0 || to <= from) {
            return;
        }
        HailNames hail = new HailNames();
        int answers = 0;
        for (String line : readme.substring(from, to).split("\n")) {
            Matcher said = SAID.matcher(line);
            if (said.find()) {
                for (char sign : said.group(1).toCharArray()) {
                    hail.say(sign);
                }
            } else if (line.startsWith("hail.")) {
                answerIsAsTold(hail, line, calls);
                answers++;
            }
        }
        hold(answers > 0, "the example has no answers");
    }

    private static void answerIsAsTold(HailNames hail, String line, Map<String, Method> calls) throws Exception {
        Matcher call = CALL.matcher(line);
        Method m = call.matches() ? calls.get(call.group(1)) : null;
        if (m == null || numbersIn(call.group(2)) != m.getParameterCount()) {
            hold(false, "no call with an answer: " + line);
            return;
        }
        Object[] given = new Object[m.getParameterCount()];
        for (int i = 0; i < given.length; i++) {
            given[i] = Integer.valueOf(call.group(2).split(",")[i].trim());
        }
        long got = ((Number) m.invoke(hail, given)).longValue();
        hold(got == Long.parseLong(call.group(3)), line + " (answered " + got + ")");
    }
}
