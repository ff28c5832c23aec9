import java.io.IOException;
import java.lang.reflect.Method;
import java.lang.reflect.Modifier;
import java.nio.file.Files;
import java.nio.file.Path;
import java.util.ArrayList;
import java.util.List;
import java.util.TreeSet;
import java.util.regex.Matcher;
import java.util.regex.Pattern;

/** What README.md shows is what the class answers: each call of its example, and its tables. */
public final class ReadmeTest {
    private static final Check CHECK = new Check();
    private static final String MADE = "NextLife x = new NextLife();";
    /** One call to a line, and its answer as the first word of the comment. */
    private static final Pattern LINE = Pattern.compile("x\\.(\\w+)\\((.*)\\); +// ([^:]+)(:.*)?");
    private static final Pattern ROW = Pattern.compile("\\| `(\\w+)\\(([\\w, ]*)\\)` \\|.*\\|.*\\|");
    private static final Pattern CONSTANT = Pattern.compile("\\| `([A-Z]+)` \\| (-?\\d+) \\|.*");
    /** An object is used for at most so many calls. */
    private static final int MOST_CALLS = 512;

    public static void main(String[] args) throws ReflectiveOperationException, IOException {
        List<String> lines = Files.readAllLines(Path.of("README.md"));
        List<String> example = example(lines);
        CHECK.isTrue("the example begins with a new object", example.size() > 1 && example.get(0).equals(MADE));
        TreeSet<String> called = callAll(example.subList(1, example.size()));
        CHECK.isTrue("the example makes every call: " + called, called.equals(namesOfTheFace()));
        TreeSet<String> listed = listed(lines);
        CHECK.isTrue("the table lists every call: " + listed, listed.equals(namesOfTheFace()));
        refusals(lines);
        CHECK.end();
    }

    private static List<String> example(List<String> lines) {
        List<String> found = new ArrayList<>();
        boolean inside = false;
        for (String line : lines) {
            if (line.startsWith("```")) {
                inside = line.equals("```java");
            } else if (inside && !line.isEmpty()) {
                found.add(line);
            }
        }
        return found;
    }

    private static TreeSet<String> callAll(List<String> example) throws ReflectiveOperationException {
        NextLife x = new NextLife();
        TreeSet<String> called = new TreeSet<>();
        for (String line : example) {
            Matcher parts = LINE.matcher(line);
            CHECK.isTrue("a call and its answer: " + line, parts.matches());
            if (parts.matches()) {
                CHECK.due(line, call(x, parts.group(1), parts.group(2)), number(parts.group(3)));
                called.add(parts.group(1));
            }
        }
        CHECK.isTrue("an object has but 512 calls", example.size() <= MOST_CALLS);
        return called;
    }

    private static long call(NextLife x, String name, String written) throws ReflectiveOperationException {
        String[] words = written.isEmpty() ? new String[0] : written.split(", ");
        Method method = ofTheFace(name);
        Object[] values = new Object[words.length];
        for (int i = 0; i < words.length; i++) {
            values[i] = value(words[i]);
        }
        return ((Number) method.invoke(x, values)).longValue();
    }

    private static Object value(String word) {
        if (word.equals("true") || word.equals("false")) {
            return Boolean.valueOf(word);
        }
        if (word.startsWith("'")) {
            return (int) word.charAt(1);
        }
        return Integer.valueOf(word);
    }

    /** A number, a constant's name, or several of these with pluses between. */
    private static long number(String written) throws ReflectiveOperationException {
        long sum = 0;
        for (String word : written.split(" \\+ ")) {
            boolean isName = Character.isLetter(word.charAt(0));
            sum += isName ? NextLife.class.getField(word).getLong(null) : Long.parseLong(word);
        }
        return sum;
    }

    private static Method ofTheFace(String name) {
        for (Method method : NextLife.class.getMethods()) {
            if (method.getName().equals(name)) {
                return method;
            }
        }
        throw new IllegalArgumentException("README.md calls what is not there: " + name);
    }

    private static TreeSet<String> namesOfTheFace() {
        TreeSet<String> names = new TreeSet<>();
        for (Method method : NextLife.class.getDeclaredMethods()) {
            if (Modifier.isPublic(method.getModifiers())) {
                names.add(method.getName());
            }
        }
        return names;
    }

    private static TreeSet<String> listed(List<String> lines) {
        TreeSet<String> names = new TreeSet<>();
        for (String line : lines) {
            Matcher parts = ROW.matcher(line);
            if (parts.matches()) {
                String name = parts.group(1);
                int many = parts.group(2).isEmpty() ? 0 : parts.group(2).split(", ").length;
                CHECK.due("parameters of " + name, many, ofTheFace(name).getParameterCount());
                names.add(name);
            }
        }
        return names;
    }

    private static void refusals(List<String> lines) throws ReflectiveOperationException {
        TreeSet<String> names = new TreeSet<>();
        for (String line : lines) {
            Matcher parts = CONSTANT.matcher(line);
            if (parts.matches()) {
                names.add(parts.group(1));
                CHECK.due(parts.group(1), number(parts.group(1)), Long.parseLong(parts.group(2)));
            }
        }
        CHECK.isTrue("the refusals " + names, String.join(" ", names).equals("FULL NO OUTSIDE STATE UNKNOWN"));
    }
}
