import java.io.IOException;
import java.lang.reflect.Method;
import java.nio.file.Files;
import java.nio.file.Path;
import java.util.Map;
import java.util.Set;
import java.util.TreeSet;
import java.util.regex.Matcher;
import java.util.regex.Pattern;
import java.util.stream.Stream;

/** README.md tells no call's answer that is not due, shows every call, and names every test. */
public final class ReadmeTest {
    private static final Check check = new Check("ReadmeTest");
    private static final Pattern CALL = Pattern.compile("^table\\.(\\w+)\\(([^)]*)\\); +// (-?\\w+)(:.*)?$");
    private static final Map<String, Long> NAMED = Map.of("LensTable.NONE", Check.NONE, "BAD", Check.BAD);

    public static void main(String[] args) throws IOException {
        String page = Files.readString(Path.of("README.md"));
        calls(page);
        tests(page);
        check.end();
    }

    private static void calls(String page) {
        Twin twin = new Twin();
        Set<String> shown = new TreeSet<>();
        for (String line : page.split("\n")) {
            if (line.startsWith("table.")) {
                Matcher m = CALL.matcher(line);
                check.due("it tells an answer: " + line, m.matches());
                if (m.matches()) {
                    check.due(line, twin.call(m.group(1), numbers(m.group(2))), number(m.group(3)));
                    shown.add(m.group(1));
                }
            }
        }
        for (Method call : Face.CALLS) {
            check.due(call.getName() + " is shown", shown.contains(call.getName()));
        }
    }

    private static int[] numbers(String told) {
        return told.isEmpty() ? new int[0] : Stream.of(told.split(", ")).mapToInt(one -> (int) number(one)).toArray();
    }

    private static long number(String told) {
        Long named = NAMED.get(told);
        return named == null ? Long.parseLong(told) : named;
    }

    private static void tests(String page) throws IOException {
        try (Stream<Path> files = Files.list(Path.of("src/test/java"))) {
            files.map(file -> file.getFileName().toString()).filter(name -> name.endsWith("Test.java")).forEach(name -> {
                String test = name.substring(0, name.length() - ".java".length());
                check.due(test + " is named", page.contains("| " + test + " |"));
            });
        }
    }
}
