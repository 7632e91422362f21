import java.lang.reflect.Constructor;
import java.lang.reflect.Field;
import java.lang.reflect.Method;
import java.lang.reflect.Modifier;
import java.nio.file.Files;
import java.nio.file.Path;
import java.util.Arrays;
import java.util.Set;
import java.util.TreeSet;
import java.util.regex.Matcher;
import java.util.regex.Pattern;

/** The public face is just the document's, and the source has no word that LANGUAGE.md forbids. */
public final class FaceTest {
    private static final String[] METHODS = {
        "int add(int,int,long)", "int clear(int)", "int at(int,int)", "int hash(int,int)",
        "int seal(int,int,int)", "int make(int,int,int)", "int limit(int,int)",
        "int others(int,int,int)", "int bind(int,int)", "int copy(int,int)", "int drop(int)",
        "int told(int,int)", "int sign(int,int)", "int spoil(int,int,int,int)", "int ask(int,int)",
        "int truth(int)", "int prove(int,int,int)", "int fault(int)", "int write(int)",
        "int type(long,int)", "int tape(int)", "int cut(int)", "int forge(int,int)", "int read(int)",
        "int place()",
    };

    private static int wrong = 0;

    private static void due(String what, Object got, Object want) {
        if (!got.equals(want)) {
            wrong++;
            System.out.println(what + " is " + got + ", due is " + want);
        }
    }

    public static void main(String[] args) throws Exception {
        checkMembers();
        checkInside();
        checkSource();
        System.out.println(wrong == 0 ? "the face is as due" : wrong + " things are not as due");
        if (wrong != 0) {
            System.exit(1);
        }
    }

    private static void checkMembers() throws Exception {
        Class<?> face = LimitTokens.class;
        due("the class's modifiers", face.getModifiers(), Modifier.PUBLIC | Modifier.FINAL);
        Set<String> methods = new TreeSet<>();
        Set<String> hidden = new TreeSet<>();
        for (Method m : face.getDeclaredMethods()) {
            if (Modifier.isPrivate(m.getModifiers()) || m.isSynthetic()) {
                hidden.add(m.getName());
            } else {
                methods.add(signature(m));
                due(m.getName() + " is public, no more", m.getModifiers(), Modifier.PUBLIC);
            }
        }
        due("the methods", methods, new TreeSet<>(Arrays.asList(METHODS)));
        Set<String> fields = new TreeSet<>();
        for (Field f : face.getDeclaredFields()) {
            if (!Modifier.isPrivate(f.getModifiers())) {
                fields.add(f.getName() + "=" + f.get(null));
            }
        }
        due("the constants", fields, new TreeSet<>(Arrays.asList("NONE=-1", "BAD=-2", "REFUSED=-3")));
        Constructor<?>[] made = face.getDeclaredConstructors();
        due("the constructors", made.length, 1);
        due("its parameters", made[0].getParameterCount(), 0);
        due("its modifiers", made[0].getModifiers(), Modifier.PUBLIC);
        for (String name : publicNames()) {
            due("a private method is called " + name, hidden.contains(name), false);
        }
    }

    private static void checkInside() {
        for (Class<?> inside : LimitTokens.class.getDeclaredClasses()) {
            due(inside + " is static", Modifier.isStatic(inside.getModifiers()), true);
            for (Method m : inside.getDeclaredMethods()) {
                due(inside + " has a method called " + m.getName(),
                        publicNames().contains(m.getName()), false);
                due(m + " has at most 7 parameters", m.getParameterCount() <= 7, true);
            }
            for (Field f : inside.getDeclaredFields()) {
                due(f + " is final if static", Modifier.isStatic(f.getModifiers())
                        && !Modifier.isFinal(f.getModifiers()), false);
            }
        }
    }

    private static void checkSource() throws Exception {
        String source = Files.readString(Path.of("src/main/java/LimitTokens.java"));
        String code = source.replaceAll("(?s)/\\*.*?\\*/", "").replaceAll("//[^\n]*", "");
        String[] words = {"throw", "try", "catch", "synchronized", "assert", "import", "package",
            "volatile", "native", "->", "::", "Thread", "Random", "System\\.(?!arraycopy)"};
        for (String word : words) {
            String edge = Character.isLetter(word.charAt(0)) ? "\\b" : "";
            Matcher m = Pattern.compile(edge + word).matcher(code);
            due("the source has " + word, m.find(), false);
        }
        for (char c : source.toCharArray()) {
            if (c > 126) {
                due("a character of the source", (int) c, "at most 126");
            }
        }
    }

    private static Set<String> publicNames() {
        Set<String> names = new TreeSet<>();
        for (String m : METHODS) {
            names.add(m.substring(4, m.indexOf('(')));
        }
        return names;
    }

    private static String signature(Method m) {
        StringBuilder all = new StringBuilder();
        all.append(m.getReturnType().getName()).append(' ').append(m.getName()).append('(');
        String comma = "";
        for (Class<?> p : m.getParameterTypes()) {
            all.append(comma).append(p.getName());
            comma = ",";
        }
        return all.append(')').toString();
    }
}
