import java.io.IOException;
import java.lang.reflect.Constructor;
import java.lang.reflect.Field;
import java.lang.reflect.Method;
import java.lang.reflect.Modifier;
import java.nio.file.Files;
import java.nio.file.Path;
import java.util.Set;
import java.util.TreeSet;

/** The face that the document tells, no more and no less, and the rules of LANGUAGE.md that a text shows. */
public final class FaceTest {
    private static final String[] FACE = {
        "int feed(int, int, int, int, int)", "int lake(int)", "int fault()", "int where()", "int house(int, int)",
        "int corks(int, int)", "int guest(int, int)", "int rope(int, int)", "int under()", "int lowest()", "int rafts()",
        "int tilt(int)", "int heightIn(int, int)", "int underIn(int)", "int sinks(int)", "int wetFeast()",
        "int aunt(int, int, int)", "int bestStay(int)", "int bestMove(int)", "int bestCut()", "int plan(int)",
        "int planDays(int, int)", "int planHouse(int, int)", "int feasts(int)", "int feastHouse(int, int)", "int sets()",
        "int setAt(int)", "int could()", "int surely()", "int ask()", "int askLeaves()", "int judge()", "int value(int)",
        "int kingCuts(int)", "long dry(int, int, boolean)", "long mean(int, int, boolean)", "int safest(int)",
        "long losses(int, int, boolean)", "int weeks(int, int, int)", "int eaten(int, int)", "int sunkAt(int, int)",
        "int drink(int, int)", "boolean move(int, int)", "boolean cut(int)", "boolean tie(int)", "int week()",
        "boolean seed(int)", "boolean undo()", "int image()", "boolean back(int)", "int led(int)", "int size(int)",
        "int trouble()"
    };
    private static final String[] OUTSIDE = {
        "try", "catch", "finally", "synchronized", "assert", "volatile", "transient", "native", "protected", "Object",
        "hashCode", "toString", "equals", "double", "float", "Exact", "Random", "Thread", "null", "instanceof"
    };
    private static final int LONGEST_METHOD = 60;

    private final Due due = new Due();

    public static void main(String[] args) throws IOException {
        FaceTest test = new FaceTest();
        test.members();
        test.nested();
        test.source();
        test.due.end();
    }

    private void members() {
        Class<?> face = CorkStreet.class;
        due.is("public final class", Modifier.isPublic(face.getModifiers()) && Modifier.isFinal(face.getModifiers()), true);
        Set<String> open = new TreeSet<>();
        for (Method m : face.getDeclaredMethods()) {
            if (!Modifier.isPrivate(m.getModifiers())) {
                due.is(m.getName() + " is public and of an object", m.getModifiers(), Modifier.PUBLIC);
                open.add(told(m));
            }
        }
        due.is("the document's methods: " + open, open.equals(new TreeSet<>(Set.of(FACE))), true);
        for (Field f : face.getDeclaredFields()) {
            due.is("field " + f.getName() + " is private but for NONE", !Modifier.isPrivate(f.getModifiers()), f.getName().equals("NONE"));
        }
        due.is("NONE", CorkStreet.NONE, -1);
        Constructor<?>[] made = face.getDeclaredConstructors();
        due.is("one constructor", made.length, 1);
        due.is("it is public", made[0].getModifiers(), Modifier.PUBLIC);
        due.is("without parameters", made[0].getParameterCount(), 0);
    }

    private static String told(Method m) {
        StringBuilder s = new StringBuilder(m.getReturnType().getSimpleName() + " " + m.getName() + "(");
        for (Class<?> type : m.getParameterTypes()) {
            s.append(s.charAt(s.length() - 1) == '(' ? "" : ", ").append(type.getSimpleName());
        }
        return s.append(')').toString();
    }

    private void nested() {
        Set<String> names = new TreeSet<>();
        for (String method : FACE) {
            names.add(method.substring(method.indexOf(' ') + 1, method.indexOf('(')));
        }
        Class<?>[] inside = CorkStreet.class.getDeclaredClasses();
        due.is("twelve classes at most", inside.length + 1 <= 12, true);
        for (Class<?> c : inside) {
            due.is(c + " is static and not public", Modifier.isStatic(c.getModifiers()) && !Modifier.isPublic(c.getModifiers()), true);
            int fields = 0;
            for (Field f : c.getDeclaredFields()) {
                due.is(f + ": static ones are final", !Modifier.isStatic(f.getModifiers()) || Modifier.isFinal(f.getModifiers()), true);
                fields += Modifier.isStatic(f.getModifiers()) ? 0 : 1;
            }
            due.is(c + " has some twenty fields", fields <= 20, true);
            for (Method m : c.getDeclaredMethods()) {
                due.is(m + " has no name of the face", names.contains(m.getName()), false);
                due.is(m + " has seven parameters at most", m.getParameterCount() <= 7, true);
            }
        }
    }

    private void source() throws IOException {
        String all = Files.readString(Path.of("src/main/java/CorkStreet.java"));
        String code = all.replaceAll("(?s)/\\*.*?\\*/", "").replaceAll("//[^\n]*", "");
        for (String word : OUTSIDE) {
            due.is("the word " + word, code.matches("(?s).*\\b" + word + "\\b.*"), false);
        }
        due.is("a lambda", code.contains("->"), false);
        due.is("a method reference", code.contains("::"), false);
        due.is("imports", code.split("\nimport |^import ", -1).length - 1, 1);
        due.is("System but arraycopy", code.replace("System.arraycopy", "").contains("System"), false);
        due.is("signs beyond 127", all.chars().anyMatch(c -> c > 126 || c < 32 && c != '\n'), false);
        int begun = 0;
        String[] lines = all.split("\n");
        for (int i = 0; i < lines.length; i++) {
            if (lines[i].matches(" {4,8}[a-zA-Z].*\\) (throws \\w+ )?\\{") && !lines[i].contains(" class ")) {
                begun = i;
            }
            if (lines[i].matches(" {4,8}\\}") && begun > 0) {
                due.is("the method at line " + (begun + 1) + " is short", i - begun <= LONGEST_METHOD, true);
            }
            if (lines[i].contains(" class ")) {
                begun = 0;
            }
        }
    }
}
