import java.io.IOException;
import java.lang.reflect.Constructor;
import java.lang.reflect.Field;
import java.lang.reflect.Method;
import java.lang.reflect.Modifier;
import java.nio.file.Files;
import java.nio.file.Path;
import java.util.ArrayList;
import java.util.List;
import java.util.TreeSet;
import java.util.regex.Pattern;

/** The face of the class is the document's and no more, and its text keeps to what LANGUAGE.md leaves. */
public final class FaceTest {
    private static final String FACE = "add(int, int) appeal(int) bestPlace(int, int) count(int) fault() give(int)"
            + " ifPassed(int, int) move(int, int) next(int) pass(int) person(int, int) put(long) read() restore(int)"
            + " save(int) set(int, int) stepDown() undo() untilEmpty() wipe()";

    public static void main(String[] args) throws IOException {
        Checks c = new Checks("FaceTest");
        members(c);
        classesInside(c);
        words(c);
        c.finish();
    }

    private static void members(Checks c) {
        c.due("modifiers", PurrProbates.class.getModifiers(), Modifier.PUBLIC | Modifier.FINAL);
        TreeSet<String> methods = new TreeSet<>();
        List<String> privateNames = new ArrayList<>();
        for (Method m : PurrProbates.class.getDeclaredMethods()) {
            if (Modifier.isPrivate(m.getModifiers())) {
                privateNames.add(m.getName());
            } else {
                c.due("modifiers of " + m, m.getModifiers(), Modifier.PUBLIC);
                c.due("type of " + m, m.getReturnType().getName(), "int");
                String all = m.toString();
                methods.add(all.substring(all.indexOf('.') + 1).replace(",", ", "));
            }
        }
        c.due("methods", String.join(" ", methods), FACE);
        noPublicNames(c, "PurrProbates", privateNames);
        for (Constructor<?> k : PurrProbates.class.getDeclaredConstructors()) {
            c.due("constructor", k.toString(), "public PurrProbates()");
        }
        TreeSet<String> constants = new TreeSet<>();
        for (Field f : PurrProbates.class.getDeclaredFields()) {
            if (!Modifier.isPrivate(f.getModifiers())) {
                c.due("modifiers of " + f, f.getModifiers(), Modifier.PUBLIC | Modifier.STATIC | Modifier.FINAL);
                constants.add(f.getName());
            }
        }
        c.due("constants", String.join(" ", constants),
                "ALLOW BAD_TEXT BAD_VALUE BARS COST MONTH NONE NOT_POSSIBLE NO_SUCH PURR SOUR TOO_MANY");
    }

    private static void classesInside(Checks c) {
        for (Class<?> inside : PurrProbates.class.getDeclaredClasses()) {
            c.due(inside + " is static", Modifier.isStatic(inside.getModifiers()) ? 1 : 0, 1);
            c.due(inside + " is not public", inside.getModifiers() & (Modifier.PUBLIC | Modifier.PROTECTED), 0);
            List<String> names = new ArrayList<>();
            for (Method m : inside.getDeclaredMethods()) {
                names.add(m.getName());
            }
            noPublicNames(c, inside.getName(), names);
            int fields = 0;
            for (Field f : inside.getDeclaredFields()) {
                fields += Modifier.isStatic(f.getModifiers()) ? 0 : 1;
            }
            c.due(inside + " has at most 20 fields", Math.max(20, fields), 20);
        }
        c.due("at most 12 classes", Math.max(11, PurrProbates.class.getDeclaredClasses().length), 11);
    }

    private static void noPublicNames(Checks c, String where, List<String> names) {
        for (String name : names) {
            boolean isPublic = (" " + FACE).contains(" " + name + "(");
            c.due(where + "." + name + " bears the name of a public method", isPublic ? 1 : 0, 0);
        }
    }

    /** The words are looked for outside of comments. */
    private static void words(Checks c) throws IOException {
        String source = Files.readString(Path.of("src/main/java/PurrProbates.java"));
        String code = source.replaceAll("(?s)/\\*.*?\\*/", "").replaceAll("//.*", "");
        String[] none = {"package", "import", "throw", "throws", "try", "catch", "synchronized", "assert", "volatile",
            "transient", "native", "equals", "hashCode", "toString", "System\\.(?!arraycopy)", "Thread", "->", "::",
            "double", "float", "[a-z]Exact", "\"", "var", "protected"};
        for (String word : none) {
            String pattern = Character.isLetter(word.charAt(0)) && !word.contains(".") ? "\\b" + word + "\\b" : word;
            c.due("the word " + word, Pattern.compile(pattern).matcher(code).find() ? 1 : 0, 0);
        }
        for (int i = 0; i < source.length(); i++) {
            if (source.charAt(i) > 126) {
                c.due("a sign beyond 126 at " + i, source.charAt(i), 126);
            }
        }
    }
}
