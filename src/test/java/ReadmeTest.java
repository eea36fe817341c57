import java.io.IOException;
import java.lang.reflect.InvocationTargetException;
import java.lang.reflect.Method;
import java.nio.file.Files;
import java.nio.file.Path;
import java.util.HashMap;
import java.util.Map;
import java.util.TreeSet;
import java.util.regex.Matcher;
import java.util.regex.Pattern;

/** README.md names every call and every test, and the calls in it answer what it says. */
public final class ReadmeTest {
    private static final Check check = new Check();
    private static final Pattern BLOCK = Pattern.compile("(?s)```java\n(.*?)```");
    private static final Pattern CALL =
            Pattern.compile("(?:int (\\w+) = )?town\\.(\\w+)\\((.*)\\); +// (-?\\d+)(:.*)?");

    public static void main(String[] args) throws IOException, ReflectiveOperationException {
        String readme = Files.readString(Path.of("README.md"));
        int calls = 0;
        Matcher block = BLOCK.matcher(readme);
        while (block.find()) {
            calls += answers(block.group(1));
        }
        check.due("README: how many calls are made", calls, 25);
        for (Method m : PeasDrum.class.getDeclaredMethods()) {
            if (java.lang.reflect.Modifier.isPublic(m.getModifiers())) {
                check.isTrue("README names " + m.getName(), readme.contains("`" + m.getName() + "`"));
            }
        }
        check.isTrue("README names each test", testsNamedIn(readme).equals(testsThereAre()));
        check.end();
    }

    /** Makes the calls of a block on a new object: how many. */
    private static int answers(String block) throws ReflectiveOperationException {
        PeasDrum town = new PeasDrum();
        Map<String, Integer> names = new HashMap<>();
        String[] lines = block.split("\n");
        check.isTrue("README: begins with a new object", lines[0].equals("PeasDrum town = new PeasDrum();"));
        for (int i = 1; i < lines.length; i++) {
            Matcher call = CALL.matcher(lines[i]);
            boolean isCall = call.matches();
            check.isTrue("README: a call: " + lines[i], isCall);
            if (isCall) {
                long answer = answer(town, call.group(2), call.group(3), names);
                check.due("README: " + lines[i], answer, Long.parseLong(call.group(4)));
                names.put(call.group(1), (int) answer);
            }
        }
        return lines.length - 1;
    }

    private static long answer(PeasDrum town, String name, String arguments, Map<String, Integer> names)
            throws IllegalAccessException, InvocationTargetException {
        for (Method m : PeasDrum.class.getDeclaredMethods()) {
            if (m.getName().equals(name)) {
                String[] told = arguments.isEmpty() ? new String[0] : arguments.split(", ");
                Object[] values = new Object[told.length];
                for (int i = 0; i < told.length; i++) {
                    boolean isYesOrNo = m.getParameterTypes()[i] == boolean.class;
                    values[i] = isYesOrNo ? (Object) told[i].equals("true") : (Object) number(told[i], names);
                }
                return ((Number) m.invoke(town, values)).longValue();
            }
        }
        check.isTrue("README: there is a call " + name, false);
        return 0;
    }

    /** A number, a name of one, or signs that are shifted and put together. */
    private static int number(String told, Map<String, Integer> names) {
        int sum = 0;
        for (String part : told.split(" \\| ")) {
            if (part.startsWith("'")) {
                sum |= part.charAt(1) << (part.length() > 3 ? Integer.parseInt(part.substring(7)) : 0);
            } else {
                sum |= names.containsKey(part) ? names.get(part) : Integer.parseInt(part);
            }
        }
        return sum;
    }

    private static TreeSet<String> testsNamedIn(String readme) {
        TreeSet<String> names = new TreeSet<>();
        Matcher m = Pattern.compile("`(\\w+Test)`").matcher(readme);
        while (m.find()) {
            names.add(m.group(1));
        }
        return names;
    }

    private static TreeSet<String> testsThereAre() throws IOException {
        TreeSet<String> names = new TreeSet<>();
        try (var files = Files.list(Path.of("src/test/java"))) {
            files.map(file -> file.getFileName().toString()).filter(name -> name.endsWith("Test.java"))
                    .forEach(name -> names.add(name.substring(0, name.length() - 5)));
        }
        return names;
    }
}
