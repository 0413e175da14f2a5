import java.io.IOException;
import java.lang.reflect.Method;
import java.lang.reflect.Modifier;
import java.nio.file.Files;
import java.nio.file.Path;
import java.util.Set;
import java.util.TreeSet;
import java.util.regex.Matcher;
import java.util.regex.Pattern;

/** README.md's own calls, made in their order: each answer must be the one that stands behind it. */
public final class ReadmeTests {
    private static final Pattern BLOCK = Pattern.compile("(?ms)^```java\n(.*?)^```$");
    private static final Pattern MADE = Pattern.compile("DredgePond pond = new DredgePond\\((\\d+), (\\d+)\\);.*");
    private static final Pattern CALL = Pattern.compile("pond\\.(\\w+)\\((.*)\\); +// (true|false|-?\\d+)(: .*)?");

    private static final Check check = new Check();
    private static final Set<String> notCalled = new TreeSet<>();
    private static DredgePond pond = new DredgePond(2, 2);

    public static void main(String[] args) throws IOException, ReflectiveOperationException {
        for (Method method : DredgePond.class.getDeclaredMethods()) {
            if (Modifier.isPublic(method.getModifiers())) {
                notCalled.add(method.getName());
            }
        }
        Matcher block = BLOCK.matcher(Files.readString(Path.of("README.md")));
        while (block.find()) {
            for (String line : block.group(1).split("\n")) {
                follow(line);
            }
        }
        check.due("without a call in README.md: " + notCalled, notCalled.size(), 0);
        check.close();
    }

    private static void follow(String line) throws ReflectiveOperationException {
        Matcher made = MADE.matcher(line);
        if (made.matches()) {
            pond = new DredgePond(Integer.parseInt(made.group(1)), Integer.parseInt(made.group(2)));
            return;
        }
        Matcher call = CALL.matcher(line);
        check.due("README.md has a call with its answer: " + line, call.matches(), true);
        if (call.matches()) {
            String got = String.valueOf(answer(call.group(1), call.group(2)));
            check.due("README.md: " + line + " answered " + got + "; that it is as told", got.equals(call.group(3)), true);
        }
    }

    private static Object answer(String name, String told) throws ReflectiveOperationException {
        String[] numbers = told.isEmpty() ? new String[0] : told.split(", ");
        Class<?>[] types = new Class<?>[numbers.length];
        Object[] given = new Object[numbers.length];
        for (int i = 0; i < numbers.length; i++) {
            types[i] = int.class;
            given[i] = Integer.decode(numbers[i]);
        }
        notCalled.remove(name);
        return DredgePond.class.getMethod(name, types).invoke(pond, given);
    }
}
