import java.lang.reflect.Method;
import java.lang.reflect.Modifier;
import java.lang.reflect.Parameter;
import java.nio.file.Files;
import java.nio.file.Path;
import java.util.regex.Matcher;
import java.util.regex.Pattern;

/** README.md tells the face as it is, and its example answers as it says; the argument is the source's path. */
public final class ReadmeTest {
    private static final Due due = new Due();
    private static final Pattern ROW = Pattern.compile("(?m)^works\\.(\\w+)\\((.*?)\\); *// (-?\\d+)");

    public static void main(String[] args) throws Exception {
        Path source = Path.of(args[0]).toAbsolutePath().normalize();
        String readme = Files.readString(source.resolve("../../../../README.md").normalize());
        example(readme);
        table(readme, Files.readString(source));
        due.end();
    }

    private static void example(String readme) throws Exception {
        ColourWorks works = new ColourWorks();
        int rows = 0;
        Matcher row = ROW.matcher(readme);
        while (row.find()) {
            rows++;
            Object got = answer(works, row.group(1), row.group(2));
            due.is("README: " + row.group(1) + "(" + row.group(2) + ")", (Integer) got, Integer.parseInt(row.group(3)));
        }
        due.is("README: rows of the example", rows, readme.split("(?m)^works\\.", -1).length - 1);
        due.is("README: there is an example", rows > 0 ? 1 : 0, 1);
    }

    private static Object answer(ColourWorks works, String name, String list) throws Exception {
        String[] words = list.isEmpty() ? new String[0] : list.split(", ");
        for (Method call : ColourWorks.class.getDeclaredMethods()) {
            if (Modifier.isPublic(call.getModifiers()) && call.getName().equals(name)) {
                return call.invoke(works, values(words, call.getParameters()));
            }
        }
        return Integer.MIN_VALUE;
    }

    private static Object[] values(String[] words, Parameter[] wanted) {
        Object[] values = new Object[words.length];
        for (int i = 0; i < words.length; i++) {
            boolean flag = i < wanted.length && wanted[i].getType() == boolean.class;
            values[i] = flag ? (Object) Boolean.valueOf(words[i]) : (Object) Integer.valueOf(words[i]);
        }
        return values;
    }

    /** The names of the parameters are those of the source, so that the table can be read beside it. */
    private static void table(String readme, String source) {
        int calls = 0;
        Matcher face = Pattern.compile("(?m)^    public int (\\w+)\\((.*?)\\) \\{").matcher(source);
        while (face.find()) {
            calls++;
            String call = face.group(1) + "(" + face.group(2).replaceAll("(int|boolean) ", "") + ")";
            due.is("README: a row of " + call, readme.contains("\n| `" + call + "` ") ? 1 : 0, 1);
        }
        due.is("README: calls", calls, 34);
        due.is("README: rows of calls", readme.split("\n\\| `\\w+\\(", -1).length - 1, 34);
    }
}
