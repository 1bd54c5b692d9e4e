import java.io.IOException;
import java.lang.reflect.Field;
import java.lang.reflect.Method;
import java.lang.reflect.Modifier;
import java.nio.file.Files;
import java.nio.file.Path;
import java.util.Arrays;
import java.util.Set;
import java.util.TreeSet;
import java.util.regex.Pattern;

/** The public face of the document, and what of LANGUAGE.md can be seen from outside. */
public final class FaceTest {
    private static final Due due = new Due();
    private static final String[] METHODS = {"dealer/0", "stone/4", "rate/4", "unrate/3", "lend/4",
        "back/1", "keep/1", "sell/2", "grade/3", "pause/1", "set/2", "stoneOf/2", "dealerOf/2",
        "memoOf/2", "rateOf/4", "count/1", "best/2", "pair/2", "grades/1", "mark/0", "restore/0",
        "undo/0", "type/1", "clearText/0", "fault/1", "play/0"};

    public static void main(String[] args) throws IOException {
        constants();
        members();
        nested();
        words();
        due.end();
    }

    private static void constants() {
        due.is("INVALID_ARGUMENT", GemMemos.INVALID_ARGUMENT, -10000001);
        due.is("NOT_POSSIBLE", GemMemos.NOT_POSSIBLE, -10000002);
        due.is("LIMIT_REACHED", GemMemos.LIMIT_REACHED, -10000003);
        due.is("NOT_FOUND", GemMemos.NOT_FOUND, -10000004);
    }

    private static void members() {
        Class<?> face = GemMemos.class;
        due.is("modifiers", face.getModifiers(), Modifier.PUBLIC | Modifier.FINAL);
        due.is("constructors", face.getDeclaredConstructors().length, 1);
        due.is("public constructors", face.getConstructors().length, 1);
        due.is("its parameters", face.getConstructors()[0].getParameterCount(), 0);
        Set<String> seen = new TreeSet<>();
        for (Method m : face.getDeclaredMethods()) {
            if (m.isSynthetic() || Modifier.isPrivate(m.getModifiers())) {
                continue;
            }
            seen.add(m.getName() + "/" + m.getParameterCount());
            due.is(m.getName(), m.getModifiers(), Modifier.PUBLIC);
            due.holds(m.getName() + " is of int alone", m.getReturnType() == int.class
                    && Arrays.stream(m.getParameterTypes()).allMatch(t -> t == int.class));
        }
        due.holds("methods: " + seen, seen.equals(new TreeSet<>(Arrays.asList(METHODS))));
        int shown = 0;
        for (Field f : face.getDeclaredFields()) {
            boolean isPrivate = Modifier.isPrivate(f.getModifiers());
            shown += isPrivate ? 0 : 1;
            due.holds(f.getName(), isPrivate || Modifier.isFinal(f.getModifiers())
                    && Modifier.isStatic(f.getModifiers()) && f.getType() == int.class);
        }
        due.is("constants", shown, 4);
    }

    private static void nested() {
        Set<String> names = new TreeSet<>();
        for (String method : METHODS) {
            names.add(method.substring(0, method.indexOf('/')));
        }
        due.holds("classes", GemMemos.class.getDeclaredClasses().length <= 12);
        for (Class<?> c : GemMemos.class.getDeclaredClasses()) {
            due.holds(c + " is static", Modifier.isStatic(c.getModifiers()));
            for (Method m : c.getDeclaredMethods()) {
                due.holds("a name of the face: " + m, !names.contains(m.getName()));
                due.holds("parameters of " + m, m.getParameterCount() <= 7);
            }
            for (Field f : c.getDeclaredFields()) {
                due.holds("static, not final: " + f, !Modifier.isStatic(f.getModifiers())
                        || Modifier.isFinal(f.getModifiers()));
            }
        }
    }

    private static void words() throws IOException {
        String source = Files.readString(Path.of("src/main/java/GemMemos.java"));
        due.holds("signs 10, 32 to 126", source.chars().allMatch(c -> c == 10 || c >= 32 && c < 127));
        String code = source.replaceAll("(?s)/\\*.*?\\*/", "").replaceAll("//[^\n]*", "");
        String[] ruledOut = {"throw", "throws", "try", "catch", "synchronized", "assert", "import",
            "package", "protected", "instanceof", "->", "::", "Exact", "equals", "hashCode",
            "toString", "List", "float", "double", "static\\s*\\{"};
        for (String word : ruledOut) {
            String edge = Character.isLetter(word.charAt(0)) ? "\\b" : "";
            due.holds("without " + word, !Pattern.compile(edge + word).matcher(code).find());
        }
    }
}
