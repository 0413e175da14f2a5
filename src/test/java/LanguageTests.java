import java.io.IOException;
import java.lang.reflect.Constructor;
import java.lang.reflect.Field;
import java.lang.reflect.Method;
import java.lang.reflect.Modifier;
import java.nio.file.Files;
import java.nio.file.Path;
import java.util.Set;
import java.util.TreeSet;
import java.util.regex.Matcher;
import java.util.regex.Pattern;

/** The public face, and those rules of LANGUAGE.md that can be seen in the class or in its text. */
public final class LanguageTests {
    private static final String[] FACE = {
        "boolean depth(int,int,int)", "boolean grade(int)", "boolean bore(int,int,int)", "int square(int,int,int)",
        "boolean cost(int)", "int path(int,int)", "int next()", "int bars(int)", "int dig(int,int)",
        "boolean jig(int)", "int let(int)", "int day(int)", "boolean back(int,int)",
        "int feed(int,int,int,int,int)", "int law(int)", "int fault()", "int tells(int,int)",
        "int month(int,int)", "int count(int)"};
    private static final Pattern RULED_OUT = Pattern.compile(
        "\\b(throw|throws|try|catch|synchronized|assert|import|package|protected|volatile|native)\\b|->|::|@");
    private static final int MOST_PARAMETERS = 7;
    private static final int MOST_CLASSES = 12;
    private static final int MOST_FIELDS = 20;

    private static final Check check = new Check();

    public static void main(String[] args) throws IOException {
        face();
        members();
        text();
        check.close();
    }

    private static void face() {
        Set<String> due = new TreeSet<>(Set.of(FACE));
        for (Method method : DredgePond.class.getDeclaredMethods()) {
            if (!Modifier.isPrivate(method.getModifiers())) {
                check.due("in the face: " + told(method), due.remove(told(method)), true);
                check.due("public: " + told(method), method.getModifiers(), Modifier.PUBLIC);
            }
        }
        check.due("missing in the face: " + due, due.size(), 0);
        int modifiers = DredgePond.class.getModifiers();
        check.due("public and final", modifiers, Modifier.PUBLIC | Modifier.FINAL);
        Constructor<?>[] made = DredgePond.class.getDeclaredConstructors();
        check.due("one constructor", made.length, 1);
        check.due("a public constructor", made[0].getModifiers(), Modifier.PUBLIC);
    }

    private static String told(Method method) {
        StringBuilder told = new StringBuilder(method.getReturnType().getName());
        told.append(' ').append(method.getName()).append('(');
        for (Class<?> type : method.getParameterTypes()) {
            told.append(told.charAt(told.length() - 1) == '(' ? "" : ",").append(type.getName());
        }
        return told.append(')').toString();
    }

    private static void members() {
        for (Field field : DredgePond.class.getDeclaredFields()) {
            boolean open = !Modifier.isPrivate(field.getModifiers());
            check.due("open field " + field.getName(), open, field.getName().equals("NONE"));
        }
        Class<?>[] inside = DredgePond.class.getDeclaredClasses();
        check.due("few classes", inside.length < MOST_CLASSES, true);
        each(DredgePond.class);
        for (Class<?> one : inside) {
            check.due("static " + one, Modifier.isStatic(one.getModifiers()), true);
            each(one);
        }
    }

    private static void each(Class<?> one) {
        int fields = 0;
        for (Field field : one.getDeclaredFields()) {
            boolean still = Modifier.isStatic(field.getModifiers());
            check.due("static fields are final: " + field, !still || Modifier.isFinal(field.getModifiers()), true);
            fields += still ? 0 : 1;
        }
        check.due("few fields in " + one, fields <= MOST_FIELDS, true);
        Set<String> face = new TreeSet<>();
        for (Method method : DredgePond.class.getMethods()) {
            face.add(method.getName());
        }
        for (Method method : one.getDeclaredMethods()) {
            boolean hidden = Modifier.isPrivate(method.getModifiers());
            check.due("no name of the face: " + method, hidden && face.contains(method.getName()), false);
            check.due("few parameters: " + method, method.getParameterCount() <= MOST_PARAMETERS, true);
        }
    }

    /** The test is run from the project's own folder, as .ci/run does. */
    private static void text() throws IOException {
        String code = Files.readString(Path.of("src/main/java/DredgePond.java"))
            .replaceAll("(?s)/\\*.*?\\*/", "").replaceAll("//[^\n]*", "");
        Matcher found = RULED_OUT.matcher(code);
        while (found.find()) {
            check.due("ruled out: " + found.group(), 1, 0);
        }
        check.due("characters 0 to 255", (int) code.chars().filter(letter -> letter > 255).count(), 0);
    }
}
