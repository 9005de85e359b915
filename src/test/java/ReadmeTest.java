import java.io.IOException;
import java.lang.reflect.Method;
import java.lang.reflect.Modifier;
import java.nio.file.Files;
import java.nio.file.Path;
import java.util.List;
import java.util.regex.Matcher;
import java.util.regex.Pattern;
import java.util.stream.Stream;

/** README.md tells a newcomer nothing that the class does not do. */
public final class ReadmeTest {
    private static final Pattern CALL = Pattern.compile("x\\.(\\w+)\\(([-\\d, ]*)\\);\\s*// (-?\\d+)(:.*)?");
    private static final Pattern TELL = Pattern.compile("tell\\(x, \"(.*)\"\\);");
    private static final String MADE = "GoneIntoItsTunnel x = new GoneIntoItsTunnel();";

    public static void main(String[] args) throws Exception {
        List<String> lines = Files.readAllLines(Path.of("README.md"));
        answersAreAsTold(lines);
        kindsAreAsTold(lines);
        everyCallIsNamed(lines);
        everyTestIsNamed(lines);
        Due.close();
    }

    private static void answersAreAsTold(List<String> lines) throws ReflectiveOperationException {
        GoneIntoItsTunnel x = null;
        int looked = 0;
        for (String line : lines) {
            if (line.equals(MADE)) {
                x = new GoneIntoItsTunnel();
                continue;
            }
            Matcher tell = TELL.matcher(line);
            if (tell.matches()) {
                Due.letters(x, tell.group(1));
                continue;
            }
            Matcher call = CALL.matcher(line);
            if (call.matches()) {
                looked++;
                Due.is(line, answer(x, call.group(1), call.group(2)), Integer.parseInt(call.group(3)));
            } else {
                Due.is("a line that is no call that can be looked at: " + line, line.startsWith("x.") ? 1 : 0, 0);
            }
        }
        Due.is("calls were looked at", looked > 30 ? 1 : 0, 1);
    }

    private static int answer(GoneIntoItsTunnel x, String name, String arguments)
            throws ReflectiveOperationException {
        String[] parts = arguments.isEmpty() ? new String[0] : arguments.split(", ");
        Class<?>[] types = new Class<?>[parts.length];
        Object[] values = new Object[parts.length];
        for (int i = 0; i < parts.length; i++) {
            types[i] = int.class;
            values[i] = Integer.parseInt(parts[i]);
        }
        return (Integer) GoneIntoItsTunnel.class.getMethod(name, types).invoke(x, values);
    }

    /** Each row of the table, with a figure and a pull that show where they count. */
    private static void kindsAreAsTold(List<String> lines) {
        Pattern row = Pattern.compile("\\| (\\d) \\| `(\\w)` \\| [^|]* \\| ([^|]*) \\| ([^|]*) \\| ([^|]*) \\| ([^|]*) \\|");
        int kinds = 0;
        for (String line : lines) {
            Matcher matcher = row.matcher(line);
            if (matcher.matches()) {
                GoneIntoItsTunnel x = Due.told("i" + matcher.group(2) + "027;p97;");
                Due.is("the kind of " + matcher.group(2), x.inch(2, 0), Integer.parseInt(matcher.group(1)));
                for (int what = 2; what <= 5; what++) {
                    Due.is("what " + what + " of " + line, x.inch(2, what), worth(matcher.group(what + 1), 7, 7));
                }
                kinds++;
            }
        }
        Due.is("kinds in the table", kinds, 6);
    }

    private static int worth(String words, int figure, int pull) {
        if (words.equals("half of pull, cut")) {
            return pull / 2;
        }
        int sum = 0;
        for (String word : words.split(" \\+ ")) {
            sum += word.equals("figure") ? figure : word.equals("pull") ? pull : Integer.parseInt(word);
        }
        return sum;
    }

    private static void everyCallIsNamed(List<String> lines) {
        for (Method method : GoneIntoItsTunnel.class.getDeclaredMethods()) {
            if (Modifier.isPublic(method.getModifiers())) {
                Pattern row = Pattern.compile("\\| `" + method.getName() + "\\(([a-z, ]*)\\)` \\|.*");
                int rows = 0;
                for (String line : lines) {
                    Matcher matcher = row.matcher(line);
                    if (matcher.matches()) {
                        rows++;
                        String names = matcher.group(1);
                        Due.is("numbers of " + method.getName(), names.isEmpty() ? 0 : names.split(", ").length,
                                method.getParameterCount());
                    }
                }
                Due.is("rows of " + method.getName(), rows, 1);
            }
        }
    }

    private static void everyTestIsNamed(List<String> lines) throws IOException {
        try (Stream<Path> files = Files.list(Path.of("src/test/java"))) {
            for (Path file : files.toList()) {
                String name = file.getFileName().toString().replace(".java", "");
                String row = "| " + name + " |";
                boolean named = lines.stream().anyMatch(line -> line.startsWith(row));
                Due.is("README.md has a row for " + name, named ? 1 : 0, name.endsWith("Test") ? 1 : 0);
            }
        }
    }
}
