import java.io.IOException;
import java.lang.reflect.InvocationTargetException;
import java.lang.reflect.Method;
import java.nio.file.Files;
import java.nio.file.Path;
import java.util.HashSet;
import java.util.Set;
import java.util.regex.Matcher;
import java.util.regex.Pattern;

/** Every call of the examples in README.md, whose answer must be the number that stands behind it. */
public final class ReadmeExamples {
    private static final String FRESH = "HalvingHouse x = new HalvingHouse();";
    private static final Pattern CALL = Pattern.compile("x\\.(\\w+)\\(([^)]*)\\);\\s*// (-?\\d+)(: .*)?");
    private static final int LEAST_CALLS = 30;

    private static HalvingHouse x = new HalvingHouse();
    private static int calls;
    private static int wrong;

    public static void main(String[] args) throws IOException {
        boolean inExample = false;
        boolean inCode = false;
        Set<String> told = new HashSet<>();
        for (String line : Files.readAllLines(Path.of("README.md"))) {
            if (line.startsWith("```")) {
                inCode = !inCode;
                inExample = inCode && line.equals("```java");
            } else if (inExample) {
                tryLine(line.strip());
            } else if (line.startsWith("|")) {
                noteNames(line, told);
            }
        }
        everyCallIsTold(told);
        if (calls < LEAST_CALLS) {
            tellWrong("only " + calls + " calls were found");
        }
        System.out.println("readme: " + calls + " calls, " + wrong + " wrong");
        System.exit(wrong == 0 ? 0 : 1);
    }

    private static void tryLine(String line) {
        if (line.equals(FRESH)) {
            x = new HalvingHouse();
            return;
        }
        Matcher parts = CALL.matcher(line);
        if (!parts.matches()) {
            tellWrong("no example: " + line);
            return;
        }
        calls++;
        String got = answer(parts.group(1), parts.group(2));
        if (!got.equals(parts.group(3))) {
            tellWrong(line + " answered " + got);
        }
    }

    private static String answer(String name, String list) {
        String[] texts = list.isBlank() ? new String[0] : list.split(",");
        Object[] numbers = new Object[texts.length];
        for (int i = 0; i < texts.length; i++) {
            numbers[i] = Integer.valueOf(texts[i].strip());
        }
        for (Method method : HalvingHouse.class.getMethods()) {
            if (method.getName().equals(name) && method.getParameterCount() == numbers.length) {
                try {
                    return String.valueOf(method.invoke(x, numbers));
                } catch (InvocationTargetException | IllegalAccessException e) {
                    return "an exception: " + e.getCause();
                }
            }
        }
        return "nothing: no such call";
    }

    private static void noteNames(String row, Set<String> told) {
        Matcher names = Pattern.compile("`(\\w+)`").matcher(row);
        while (names.find()) {
            told.add(names.group(1));
        }
    }

    /** The table of calls has each call of the face. */
    private static void everyCallIsTold(Set<String> told) {
        for (Method method : HalvingHouse.class.getMethods()) {
            boolean own = method.getDeclaringClass() == HalvingHouse.class;
            if (own && !told.contains(method.getName())) {
                tellWrong("no row tells of " + method.getName());
            }
        }
    }

    private static void tellWrong(String what) {
        wrong++;
        System.out.println(what);
    }
}
