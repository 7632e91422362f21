import java.lang.reflect.Method;
import java.lang.reflect.Modifier;
import java.nio.file.Files;
import java.nio.file.Path;
import java.util.ArrayList;
import java.util.List;
import java.util.Set;
import java.util.TreeSet;
import java.util.regex.Matcher;
import java.util.regex.Pattern;

/** README.md says how to use the class: its examples answer as they say, its table has every call. */
public final class ReadmeTest {
    private static final Pattern CALL = Pattern.compile("x\\.(\\w+)\\(([^)]*)\\);\\s*// (-?\\d+)(:.*)?");
    private static final Pattern PUT = Pattern.compile("put\\(x, (\\d), \"([^\"]*)\"\\);");
    private static final Pattern TABLE_ROW = Pattern.compile("\\| `(\\w+)\\(([^)]*)\\)` \\|.*");
    private static final int LEAST_EXAMPLES = 3;
    private static final int CALLS_OF_THE_FACE = 25;

    private static int wrong = 0;
    private static int answers = 0;

    public static void main(String[] args) throws Exception {
        List<String> lines = Files.readAllLines(Path.of("README.md"));
        checkExamples(lines);
        checkTable(lines);
        System.out.println(wrong == 0 ? answers + " answers of README.md are as due" : wrong + " are not as due");
        if (wrong != 0) {
            System.exit(1);
        }
    }

    private static void complain(String what) {
        wrong++;
        System.out.println(what);
    }

    private static void checkExamples(List<String> lines) throws Exception {
        LimitTokens x = null;
        int examples = 0;
        for (String line : lines) {
            if (line.equals("```java")) {
                x = new LimitTokens();
                examples++;
            } else if (line.equals("```")) {
                x = null;
            } else if (x != null) {
                playLine(x, line);
            }
        }
        if (examples < LEAST_EXAMPLES) {
            complain("README.md has " + examples + " examples alone");
        }
    }

    private static void playLine(LimitTokens x, String line) throws Exception {
        Matcher put = PUT.matcher(line);
        Matcher call = CALL.matcher(line);
        if (put.matches()) {
            putBytes(x, Integer.parseInt(put.group(1)), put.group(2));
        } else if (call.matches()) {
            int got = answerOf(x, call.group(1), call.group(2));
            answers++;
            if (got != Integer.parseInt(call.group(3))) {
                complain("the answer is " + got + ": " + line);
            }
        } else {
            complain("this line of an example can't be tried: " + line);
        }
    }

    private static void putBytes(LimitTokens x, int r, String bytes) {
        x.clear(r);
        for (int i = 0; i < bytes.length(); i++) {
            x.add(r, 1, bytes.charAt(i));
        }
    }

    private static int answerOf(LimitTokens x, String name, String words) throws Exception {
        Method method = methodNamed(name);
        Class<?>[] kinds = method.getParameterTypes();
        String[] parts = words.isEmpty() ? new String[0] : words.split(", ");
        Object[] values = new Object[parts.length];
        for (int i = 0; i < parts.length; i++) {
            if (i < kinds.length && kinds[i] == long.class) {
                values[i] = Long.parseLong(parts[i]);
            } else {
                values[i] = Integer.parseInt(parts[i]);
            }
        }
        return (int) method.invoke(x, values);
    }

    private static Method methodNamed(String name) {
        for (Method m : LimitTokens.class.getDeclaredMethods()) {
            if (m.getName().equals(name) && Modifier.isPublic(m.getModifiers())) {
                return m;
            }
        }
        throw new IllegalStateException("README.md names a call that is not there: " + name);
    }

    /** The parameters' names are the document's, read from its face. */
    private static void checkTable(List<String> lines) throws Exception {
        Set<String> told = new TreeSet<>();
        for (String line : lines) {
            Matcher row = TABLE_ROW.matcher(line);
            if (row.matches()) {
                told.add(row.group(1) + "(" + row.group(2) + ")");
            }
        }
        Set<String> due = new TreeSet<>(callsOfTheDocument());
        if (due.size() != CALLS_OF_THE_FACE || !told.equals(due)) {
            complain("README.md's table has " + told + ", due is " + due);
        }
    }

    private static List<String> callsOfTheDocument() throws Exception {
        Pattern call = Pattern.compile(" {4}public int (\\w+)\\(([^)]*)\\);");
        List<String> calls = new ArrayList<>();
        for (String line : Files.readAllLines(Path.of("../shared/DOC.md"))) {
            Matcher face = call.matcher(line);
            if (face.matches()) {
                calls.add(face.group(1) + "(" + face.group(2).replaceAll("(int|long) ", "") + ")");
            }
        }
        return calls;
    }
}
