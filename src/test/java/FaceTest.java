import java.io.IOException;
import java.lang.reflect.Constructor;
import java.lang.reflect.Field;
import java.lang.reflect.Method;
import java.lang.reflect.Modifier;
import java.nio.file.Files;
import java.nio.file.Path;
import java.util.Set;
import java.util.TreeSet;
import java.util.regex.Pattern;

/** The class shows the document's face and nothing else, and keeps to the rules that a reading can tell. */
public final class FaceTest {
    private static final Set<String> FACE = Set.of(
            "boolean address(int, long, long)", "int put(int, int)", "int remove(int)", "int number(int)",
            "int longest()", "int covering()", "int ahead(int)", "int at(int)", "int size()", "long told(int)");
    private static final Path SOURCE = Path.of("src/main/java/PrefixBook.java");

    private static final Due due = new Due();

    public static void main(String[] args) throws IOException {
        classItself();
        methods();
        fields();
        forbiddenWords();
        due.end();
    }

    private static void classItself() {
        due.is("class is public and final", PrefixBook.class.getModifiers(), Modifier.PUBLIC | Modifier.FINAL);
        Constructor<?>[] made = PrefixBook.class.getDeclaredConstructors();
        due.is("constructors", made.length, 1);
        due.is("constructor is public", made[0].getModifiers(), Modifier.PUBLIC);
        due.is("constructor's parameters", made[0].getParameterCount(), 0);
    }

    private static void methods() {
        Set<String> seen = new TreeSet<>();
        Set<String> openNames = new TreeSet<>();
        for (Method m : PrefixBook.class.getDeclaredMethods()) {
            if (!Modifier.isPrivate(m.getModifiers())) {
                seen.add(signature(m));
                openNames.add(m.getName());
                due.is(m.getName() + " is public alone", m.getModifiers(), Modifier.PUBLIC);
            }
        }
        due.is("face is the document's: " + seen, seen.equals(FACE), true);
        for (Method m : PrefixBook.class.getDeclaredMethods()) {
            if (Modifier.isPrivate(m.getModifiers())) {
                due.is("private " + m.getName() + " bears a public name", openNames.contains(m.getName()), false);
            }
        }
    }

    private static String signature(Method m) {
        StringBuilder text = new StringBuilder();
        text.append(m.getReturnType().getName()).append(' ').append(m.getName()).append('(');
        String between = "";
        for (Class<?> type : m.getParameterTypes()) {
            text.append(between).append(type.getName());
            between = ", ";
        }
        return text.append(')').toString();
    }

    private static void fields() {
        due.is("NONE", PrefixBook.NONE, -1);
        for (Field f : PrefixBook.class.getDeclaredFields()) {
            int mods = f.getModifiers();
            if (f.getName().equals("NONE")) {
                due.is("NONE is a public constant", mods, Modifier.PUBLIC | Modifier.STATIC | Modifier.FINAL);
            } else {
                due.is(f.getName() + " is private", Modifier.isPrivate(mods), true);
                due.is(f.getName() + " is no static state", Modifier.isStatic(mods) && !Modifier.isFinal(mods), false);
            }
        }
    }

    private static void forbiddenWords() throws IOException {
        String source = Files.readString(SOURCE)
                .replaceAll("(?s)/\\*.*?\\*/", " ").replaceAll("//[^\n]*", " ");
        for (String word : new String[] {"throw", "throws", "try", "catch", "finally", "synchronized", "assert",
                "import", "package", "native", "volatile", "System", "Thread", "Random", "hashCode", "toString"}) {
            boolean found = Pattern.compile("\\b" + word + "\\b").matcher(source).find();
            due.is("source has the word " + word, found, false);
        }
        for (String sign : new String[] {"->", "::", "Exact("}) {
            due.is("source has the sign " + sign, source.contains(sign), false);
        }
    }
}
