import java.io.IOException;
import java.io.UncheckedIOException;
import java.lang.reflect.InvocationTargetException;
import java.lang.reflect.Method;
import java.nio.file.Files;
import java.nio.file.Path;
import java.util.ArrayList;
import java.util.List;
import java.util.Set;
import java.util.TreeSet;
import java.util.regex.Matcher;
import java.util.regex.Pattern;

/** The calls that README.md tells, with the answers that it tells. */
final class ReadmeTests {
    private static final String NEW = "RoofOrdinances city = new RoofOrdinances();";
    private static final Pattern TEXT = Pattern.compile("\"(.*)\"\\.chars\\(\\)\\.forEach\\(city::append\\);");
    private static final Pattern CALL = Pattern.compile("city\\.(\\w+)\\((.*?)\\); +// (-?\\d+(\\.\\d+)?): .+");

    private ReadmeTests() {
    }

    static void all(Checks checks) {
        checks.test("README.md tells what the calls answer", ReadmeTests::calls);
        checks.test("README.md tells of each method", ReadmeTests::methods);
    }

    // The tests are run from the root of the project.
    private static List<String> lines() {
        try {
            return Files.readAllLines(Path.of("README.md"));
        } catch (IOException fault) {
            throw new UncheckedIOException(fault);
        }
    }

    private static List<String> codeLines() {
        List<String> code = new ArrayList<>();
        boolean inCode = false;
        for (String line : lines()) {
            if (line.startsWith("```")) {
                inCode = line.equals("```java");
            } else if (inCode) {
                code.add(line);
            }
        }
        return code;
    }

    private static void calls(Checks c) {
        RoofOrdinances city = null;
        int told = 0;
        for (String line : codeLines()) {
            Matcher text = TEXT.matcher(line);
            Matcher call = CALL.matcher(line);
            if (line.equals(NEW)) {
                city = new RoofOrdinances();
            } else if (city != null && text.matches()) {
                text.group(1).chars().forEach(city::append);
            } else if (city != null && call.matches()) {
                c.dueDouble(line, answer(city, call.group(1), call.group(2)), Double.parseDouble(call.group(3)));
                told++;
            } else {
                c.tell("a line that is no call: " + line);
            }
        }
        c.due("calls are found", told > 30 ? 1 : 0, 1);
    }

    private static double answer(RoofOrdinances city, String name, String arguments) {
        List<Object> values = new ArrayList<>();
        for (String argument : arguments.isEmpty() ? new String[0] : arguments.split(", ")) {
            boolean isTruth = argument.equals("true") || argument.equals("false");
            values.add(isTruth ? (Object) Boolean.valueOf(argument) : (Object) Integer.valueOf(argument));
        }
        for (Method method : RoofOrdinances.class.getMethods()) {
            if (method.getName().equals(name) && method.getParameterCount() == values.size()) {
                return answer(city, method, values.toArray());
            }
        }
        throw new IllegalArgumentException("no method " + name);
    }

    private static double answer(RoofOrdinances city, Method method, Object[] values) {
        try {
            return ((Number) method.invoke(city, values)).doubleValue();
        } catch (IllegalAccessException | InvocationTargetException fault) {
            throw new IllegalStateException(fault);
        }
    }

    private static void methods(Checks c) {
        String code = String.join("\n", codeLines());
        Set<String> names = new TreeSet<>();
        for (Method method : RoofOrdinances.class.getDeclaredMethods()) {
            names.add((method.getModifiers() & java.lang.reflect.Modifier.PUBLIC) != 0 ? method.getName() : "clear");
        }
        for (String name : names) {
            if (!code.contains("city." + name + "(") && !code.contains("city::" + name)) {
                c.tell("no call of " + name);
            }
        }
    }
}
