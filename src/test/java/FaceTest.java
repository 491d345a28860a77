import java.io.IOException;
import java.lang.reflect.Constructor;
import java.lang.reflect.Field;
import java.lang.reflect.Method;
import java.lang.reflect.Modifier;
import java.nio.file.Files;
import java.nio.file.Path;
import java.util.ArrayList;
import java.util.List;
import java.util.Set;
import java.util.TreeSet;
import java.util.regex.Matcher;
import java.util.regex.Pattern;

/** The public face as the document has it, and those rules of LANGUAGE.md that can be seen without a parser. */
public final class FaceTest {
    private static final Path SOURCE = Path.of("src/main/java/NinthWave.java");
    private static final Path DOCUMENT = Path.of("../shared/DOC.md");
    // Each method with how many ints it takes; each answers an int.
    private static final String FACE = "row3 set3 copy5 drop1 feed1 sea0 fault0 waves1 slip2 law1 change2 heeds2 undo0 ship2 "
            + "tower2 wave2 ahead2 shipAhead3 towerAhead2 called2 fit2 highest2 order2 laws2 bribe2 heed1 agreed2 log4 "
            + "wreck4 season3 image1 restore1 kind1 as2 ask2 trace1 count1 status0";
    private static final String[] RULED_OUT = {"throw", "throws", "try", "catch", "finally", "synchronized", "assert",
        "import", "package", "protected", "lambda", "native", "volatile", "transient", "Object", "equals", "hashCode",
        "toString", "Exact"};
    /** What the class uses of the library that rule 4 leaves; what else it uses is to be looked up there first. */
    private static final Set<String> LIBRARY = Set.of("Math.max", "Math.min", "System.arraycopy");

    private static int wrong = 0;

    private static void hold(String what, boolean isSo) {
        if (!isSo) {
            wrong++;
            System.out.println("not so: " + what);
        }
    }

    private static void face() {
        Class<?> c = NinthWave.class;
        hold("public and final", Modifier.isPublic(c.getModifiers()) && Modifier.isFinal(c.getModifiers()));
        Set<String> open = new TreeSet<>();
        Set<String> hidden = new TreeSet<>();
        for (Method m : c.getDeclaredMethods()) {
            if (Modifier.isPrivate(m.getModifiers()) || m.isSynthetic()) {
                hidden.add(m.getName());
                continue;
            }
            open.add(m.getName() + m.getParameterCount());
            hold(m + " is public and answers an int", Modifier.isPublic(m.getModifiers())
                    && !Modifier.isStatic(m.getModifiers()) && m.getReturnType() == int.class);
            for (Class<?> p : m.getParameterTypes()) {
                hold(m + " takes ints", p == int.class);
            }
        }
        hold("the methods of the face: " + open, open.equals(new TreeSet<>(List.of(FACE.split(" ")))));
        for (String name : hidden) {
            hold("no private method bears a public name: " + name, !(" " + FACE).matches(".* " + name + "\\d.*"));
        }
        Constructor<?>[] made = c.getDeclaredConstructors();
        hold("one public constructor", made.length == 1 && Modifier.isPublic(made[0].getModifiers())
                && made[0].getParameterCount() == 0);
        fields(c);
    }

    private static void fields(Class<?> c) {
        Set<String> open = new TreeSet<>();
        for (Field f : c.getDeclaredFields()) {
            if (!Modifier.isPrivate(f.getModifiers())) {
                open.add(f.getName());
            }
        }
        hold("the constants: " + open, open.equals(Set.of("NONE", "BAD", "STATE", "FULL")));
        hold("NONE", NinthWave.NONE == -1000000);
        hold("BAD", NinthWave.BAD == -1000001);
        hold("STATE", NinthWave.STATE == -1000002);
        hold("FULL", NinthWave.FULL == -1000003);
    }

    private static void classes() {
        Class<?>[] inside = NinthWave.class.getDeclaredClasses();
        hold("some twelve classes: " + inside.length, inside.length <= 12);
        for (Class<?> c : inside) {
            hold(c + " is static", Modifier.isStatic(c.getModifiers()));
            hold(c + " is not open", !Modifier.isPublic(c.getModifiers()) && !Modifier.isProtected(c.getModifiers()));
            int many = 0;
            for (Field f : c.getDeclaredFields()) {
                boolean isStatic = Modifier.isStatic(f.getModifiers());
                hold(f + ": static fields are final", !isStatic || Modifier.isFinal(f.getModifiers()));
                many += isStatic ? 0 : 1;
            }
            hold(c + " has some twenty fields: " + many, many <= 20);
            for (Method m : c.getDeclaredMethods()) {
                hold(m + " takes seven at most", m.getParameterCount() <= 7);
                hold(m + " bears no public name", !(" " + FACE).matches(".* " + m.getName() + "\\d.*"));
            }
        }
    }

    /** The face of this test is that of the document, line by line. */
    private static void document() throws IOException {
        Set<String> told = new TreeSet<>();
        Matcher m = Pattern.compile("(?m)^    public int (\\w+)\\(([^)]*)\\);").matcher(Files.readString(DOCUMENT));
        while (m.find()) {
            told.add(m.group(1) + (m.group(2).isEmpty() ? 0 : m.group(2).split(",").length));
        }
        hold("the document's face: " + told, told.equals(new TreeSet<>(List.of(FACE.split(" ")))));
    }

    /** Each name with a capital that a point follows is a class of the file, or of the library as told. */
    private static void library(String text) {
        Set<String> own = new TreeSet<>();
        for (Class<?> c : NinthWave.class.getDeclaredClasses()) {
            own.add(c.getSimpleName());
        }
        Matcher m = Pattern.compile("\\b([A-Z]\\w*)\\.(\\w+)").matcher(text);
        while (m.find()) {
            boolean isArray = m.group(1).equals(m.group(1).toUpperCase()) && m.group(2).equals("length");
            hold("rule 4 leaves " + m.group(), isArray || own.contains(m.group(1)) || LIBRARY.contains(m.group()));
        }
    }

    private static void source() throws IOException {
        String whole = Files.readString(SOURCE);
        hold("all signs are 1 to 127", whole.chars().allMatch(c -> c >= 1 && c <= 127));
        String text = whole.replaceAll("(?s)/\\*.*?\\*/", "").replaceAll("//[^\n]*", "");
        library(text);
        for (String word : RULED_OUT) {
            hold("the source has no " + word, !Pattern.compile("\\b" + word + "\\b").matcher(text).find());
        }
        hold("no lambda, no method reference", !text.contains("->") && !text.contains("::"));
        for (String line : methodsTooLong(text)) {
            hold("some sixty lines: " + line, false);
        }
    }

    /** A method begins at an indent of 4 or 8 with a bracket at its end, and ends at the same indent. */
    private static List<String> methodsTooLong(String text) {
        List<String> found = new ArrayList<>();
        Matcher m = Pattern.compile("(?m)^( {4}| {8})(?! )([^\n]*\\) \\{)\n((?:\\1 [^\n]*\n|\n)*)\\1\\}").matcher(text);
        while (m.find()) {
            if (m.group(3).lines().count() > 58) {
                found.add(m.group(2));
            }
        }
        return found;
    }

    public static void main(String[] args) throws IOException {
        document();
        face();
        classes();
        source();
        System.out.println(wrong + " rules of the face not held");
        if (wrong != 0) {
            System.exit(1);
        }
    }
}
