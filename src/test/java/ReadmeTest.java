import java.io.IOException;
import java.lang.reflect.Method;
import java.lang.reflect.Modifier;
import java.nio.file.Files;
import java.nio.file.Path;
import java.util.ArrayList;
import java.util.List;
import java.util.Set;
import java.util.TreeSet;
import java.util.regex.Matcher;
import java.util.regex.Pattern;
import java.util.stream.Stream;

/** What README.md says is so: each answer in its examples, its list of calls, of classes, of tests. */
public final class ReadmeTest {
    private static final Pattern BLOCK = Pattern.compile("(?s)```java\n(.*?)```");
    private static final Pattern TEXT = Pattern.compile("String text = \"(.*)\";");
    private static final Pattern ANSWER = Pattern.compile("x\\.(\\w+)\\(([-0-9, ]*)\\); +// (-?[0-9]+|NONE|BAD|STATE|FULL)\\b.*");
    /** What an example may have but a call with its answer. */
    private static final Set<String> OTHER = Set.of("NinthWave x = new NinthWave();",
            "for (int i = 0; i < text.length(); i++) {", "x.feed(text.charAt(i));", "}");

    private static int wrong = 0;
    private static int answers = 0;

    private static void hold(String what, boolean isSo) {
        if (!isSo) {
            wrong++;
            System.out.println("README.md, not so: " + what);
        }
    }

    private static int number(String told) {
        switch (told) {
            case "NONE": return NinthWave.NONE;
            case "BAD": return NinthWave.BAD;
            case "STATE": return NinthWave.STATE;
            case "FULL": return NinthWave.FULL;
            default: return Integer.parseInt(told);
        }
    }

    private static int call(NinthWave x, String name, String numbers) throws ReflectiveOperationException {
        List<Object> given = new ArrayList<>();
        for (String one : numbers.split(",")) {
            if (!one.isBlank()) {
                given.add(Integer.parseInt(one.trim()));
            }
        }
        Class<?>[] ints = new Class<?>[given.size()];
        java.util.Arrays.fill(ints, int.class);
        return (Integer) NinthWave.class.getMethod(name, ints).invoke(x, given.toArray());
    }

    private static void example(String block) throws ReflectiveOperationException {
        NinthWave x = new NinthWave();
        for (String told : block.split("\n")) {
            String line = told.trim();
            Matcher text = TEXT.matcher(line);
            Matcher answer = ANSWER.matcher(line);
            if (text.matches()) {
                for (char c : text.group(1).toCharArray()) {
                    x.feed(c);
                }
            } else if (answer.matches()) {
                answers++;
                int got = call(x, answer.group(1), answer.group(2));
                hold(line + " (it answers " + got + ")", got == number(answer.group(3)));
            } else {
                hold("a line without an answer: " + line, line.isEmpty() || OTHER.contains(line));
            }
        }
    }

    private static String part(String page, String from, String to) {
        int begin = page.indexOf(from);
        int end = page.indexOf(to, Math.max(begin, 0));
        hold("there is " + from + " ahead of " + to, begin >= 0 && end >= 0);
        return begin >= 0 && end >= 0 ? page.substring(begin, end) : "";
    }

    private static Set<String> names(String text, String pattern) {
        Set<String> found = new TreeSet<>();
        Matcher m = Pattern.compile(pattern).matcher(text);
        while (m.find()) {
            found.add(m.group(1));
        }
        return found;
    }

    private static void calls(String page) {
        Set<String> open = new TreeSet<>();
        for (Method m : NinthWave.class.getDeclaredMethods()) {
            if (Modifier.isPublic(m.getModifiers())) {
                open.add(m.getName());
            }
        }
        Set<String> told = names(part(page, "### The calls", "A log, and an ask"), "`(\\w+)`");
        hold("the calls: " + told, told.equals(open));
    }

    private static void classes(String page) {
        Set<String> inside = new TreeSet<>();
        for (Class<?> c : NinthWave.class.getDeclaredClasses()) {
            inside.add(c.getSimpleName());
        }
        Set<String> told = names(part(page, "## How it is made", "## Tests"), "`([A-Z]\\w+)`");
        hold("the classes: " + told, told.equals(inside));
    }

    private static void tests(String page) throws IOException {
        Set<String> there = new TreeSet<>();
        try (Stream<Path> files = Files.list(Path.of("src/test/java"))) {
            files.forEach(f -> there.add(f.getFileName().toString()));
        }
        there.add("Edges.java");
        Set<String> told = names(part(page + "\u0000", "- `src/test/java", "\u0000"), "(\\w+\\.java)\\b");
        hold("the tests: " + told, told.equals(there));
    }

    public static void main(String[] args) throws IOException, ReflectiveOperationException {
        String page = Files.readString(Path.of("README.md"));
        Matcher block = BLOCK.matcher(page);
        while (block.find()) {
            example(block.group(1));
        }
        hold("it has examples with answers", answers > 0);
        calls(page);
        classes(page);
        tests(page);
        System.out.println(answers + " answers of README.md, " + wrong + " things not so");
        if (wrong != 0) {
            System.exit(1);
        }
    }
}
