import java.io.IOException;
import java.lang.reflect.InvocationTargetException;
import java.lang.reflect.Method;
import java.nio.file.Files;
import java.nio.file.Path;
import java.util.List;
import java.util.regex.Matcher;
import java.util.regex.Pattern;

/** README.md tells how the class is used: each of its lines of Java is run, and must answer what stands behind it. */
public final class ReadmeTest {
    private static final Pattern CALL = Pattern.compile("street\\.(\\w+)\\(([^)]*)\\);\\s+// (-?\\w+)\\b.*");
    /** What the page must show at least, of each kind that it tells of. */
    private static final List<String> SHOWN = List.of("feed", "lake", "house", "drink", "undo", "trouble", "fault", "where");

    private final Due due = new Due();
    private CorkStreet street;

    public static void main(String[] args) throws IOException, IllegalAccessException {
        ReadmeTest test = new ReadmeTest();
        String page = Files.readString(Path.of("README.md"));
        for (String name : SHOWN) {
            test.due.is("README shows " + name, page.contains("\nstreet." + name + "("), true);
        }
        test.runAll(page);
        test.due.end();
    }

    private void runAll(String page) throws IllegalAccessException {
        boolean java = false;
        for (String line : page.split("\n")) {
            if (line.startsWith("```")) {
                java = line.equals("```java");
            } else if (java) {
                runLine(line);
            }
        }
    }

    private void runLine(String line) throws IllegalAccessException {
        if (line.equals("CorkStreet street = new CorkStreet();")) {
            street = new CorkStreet();
            return;
        }
        Matcher call = CALL.matcher(line);
        boolean read = call.matches();
        due.is("README can be run: " + line, read, true);
        if (read) {
            due.is("README: " + line, answer(call.group(1), call.group(2)), call.group(3));
        }
    }

    private String answer(String name, String arguments) throws IllegalAccessException {
        String[] parts = arguments.isEmpty() ? new String[0] : arguments.split(", ");
        Object[] values = new Object[parts.length];
        for (int i = 0; i < parts.length; i++) {
            boolean isBit = parts[i].equals("true") || parts[i].equals("false");
            values[i] = isBit ? (Object) Boolean.valueOf(parts[i]) : (Object) Integer.decode(parts[i]);
        }
        for (Method method : CorkStreet.class.getMethods()) {
            if (method.getName().equals(name) && method.getParameterCount() == parts.length) {
                try {
                    return String.valueOf(method.invoke(street, values));
                } catch (InvocationTargetException e) {
                    return e.getCause().getClass().getSimpleName();
                }
            }
        }
        return "no such call";
    }
}
