import java.nio.file.Files;
import java.nio.file.Path;
import java.lang.reflect.Field;
import java.lang.reflect.Method;
import java.lang.reflect.Modifier;
import java.util.List;
import java.util.Set;
import java.util.TreeSet;
import java.util.regex.Matcher;
import java.util.regex.Pattern;

/** What of LANGUAGE.md can be seen from the source's words and the compiled class; the argument is the source's path. */
public final class SourceTest {
    private static final Due due = new Due();
    private static final List<String> RULED_OUT = List.of(
        "throw", "throws", "try", "catch", "finally", "synchronized", "assert", "instanceof", "double", "float",
        "Object", "Exception", "Thread", "Random", "->", "::", "Exact", "HashMap", "protected", "native", "volatile");

    public static void main(String[] args) throws Exception {
        String source = Files.readString(Path.of(args[0]));
        String code = source.replaceAll("/\\*(?s:.*?)\\*/", " ").replaceAll("//.*", " ");
        for (String word : RULED_OUT) {
            due.is("rules 2 to 6: " + word, occurrences(code, word), 0);
        }
        due.is("rule 4: imports", occurrences(code, "import"), 1);
        due.is("rule 4: of Arrays", occurrences(code, "import java.util.Arrays"), 1);
        due.is("rule 11: classes", occurrences(code, "class") <= 12 ? 1 : 0, 1);
        due.is("rule 3: characters", source.chars().filter(c -> c > 126).count(), 0);
        members();
        room(code);
        due.end();
    }

    private static int occurrences(String code, String word) {
        boolean named = Character.isLetter(word.charAt(0));
        Matcher m = Pattern.compile(named ? "\\b" + word + "\\b" : Pattern.quote(word)).matcher(code);
        int n = 0;
        while (m.find()) {
            n++;
        }
        return n;
    }

    private static void members() {
        Class<?> face = ColourWorks.class;
        due.is("rule 1: public and final", face.getModifiers(), Modifier.PUBLIC | Modifier.FINAL);
        due.is("rule 1: constructors", face.getDeclaredConstructors().length, 1);
        Set<String> open = new TreeSet<>();
        for (Method m : face.getDeclaredMethods()) {
            if (Modifier.isPublic(m.getModifiers())) {
                open.add(m.getName());
            }
        }
        due.is("rule 1: public methods", open.size(), 34);
        hiddenMembers(face, open);
        for (Class<?> inside : face.getDeclaredClasses()) {
            due.is("rule 2: static " + inside, inside.getModifiers() & Modifier.STATIC, Modifier.STATIC);
            due.is("rule 11: fields of " + inside, inside.getDeclaredFields().length <= 20 ? 1 : 0, 1);
            hiddenMembers(inside, open);
        }
    }

    private static void hiddenMembers(Class<?> of, Set<String> open) {
        boolean isFace = of == ColourWorks.class;
        for (Method m : of.getDeclaredMethods()) {
            boolean isPublic = Modifier.isPublic(m.getModifiers());
            due.is("rule 11: parameters of " + m, m.getParameterCount() <= 7 ? 1 : 0, 1);
            due.is("rule 1: hidden " + m, isFace ? isPublic || Modifier.isPrivate(m.getModifiers()) ? 1 : 0 : 1, 1);
            due.is("rule 1: name of " + m, !isPublic && open.contains(m.getName()) ? 0 : 1, 1);
        }
        for (Field f : of.getDeclaredFields()) {
            boolean constant = isFace && Modifier.isPublic(f.getModifiers()) && Modifier.isStatic(f.getModifiers());
            due.is("rule 1: hidden " + f, constant || Modifier.isPrivate(f.getModifiers()) ? 1 : 0, 1);
            boolean changes = Modifier.isStatic(f.getModifiers()) && !Modifier.isFinal(f.getModifiers());
            due.is("rule 5: final " + f, changes ? 0 : 1, 1);
        }
    }

    /** Calls make no objects: all rows stand in fields or come in the constructor, so a run's room is that of its objects. */
    private static void room(String code) {
        for (String line : code.split("\n")) {
            boolean field = line.contains("private final ");
            boolean row = line.contains("batches[i] = new Batch()") || line.contains("tanks[i] = new Tank()");
            due.is("room: " + line, occurrences(line, "new") == 0 || field || row ? 1 : 0, 1);
        }
    }
}
