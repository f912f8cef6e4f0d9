import java.io.IOException;
import java.lang.reflect.Constructor;
import java.lang.reflect.Field;
import java.lang.reflect.Method;
import java.lang.reflect.Modifier;
import java.nio.charset.StandardCharsets;
import java.nio.file.Files;
import java.nio.file.Path;
import java.util.ArrayList;
import java.util.List;
import java.util.Set;
import java.util.TreeSet;
import java.util.regex.Matcher;
import java.util.regex.Pattern;

/** The public face as the document writes it, and those rules of LANGUAGE.md that can be read off. */
public final class FaceTest {
    private static final int PROMISES = 45;
    private static final Pattern HEADING = Pattern.compile("Ahead of the calls ([^:]*) the interface says: ---- ([^.]*)\\.");

    public static void main(String[] args) throws IOException {
        String text = Files.readString(Path.of("src/main/java/DeepiceWatch.java"), StandardCharsets.UTF_8);
        List<String> face = face();
        compiled(face);
        written(face, text);
        promises(face);
        headings(text);
        members();
        classesInside(face);
        imports(text);
        words(text);
        methods(text);
        classes(text);
        Sentences.end();
    }

    /** What stands between the braces of the document's class, each declaration without 'public'. */
    private static List<String> face() {
        String section = Sentences.section("The public face");
        int from = section.indexOf("public final class DeepiceWatch {");
        int to = section.lastIndexOf('}');
        Check.holds("the face begins and ends", from >= 0 && from < to);
        List<String> face = new ArrayList<>();
        for (String declaration : section.substring(section.indexOf('{') + 1, to).split(";")) {
            if (!declaration.isBlank()) {
                Check.holds(declaration, declaration.startsWith(" public "));
                face.add(declaration.substring(" public ".length()));
            }
        }
        Check.same("a constructor and a method for each promise but the first", face.size(), PROMISES);
        return face;
    }

    /** The compiled class has these methods and no other public one. */
    private static void compiled(List<String> face) {
        Set<String> due = new TreeSet<>();
        for (String declaration : face.subList(1, face.size())) {
            int thrown = declaration.indexOf(')');
            String types = declaration.substring(0, thrown).replaceAll("(\\w+) \\w+(?=,|$)", "$1");
            due.add((types + declaration.substring(thrown)).replace(", ", ","));
        }
        Set<String> got = new TreeSet<>();
        for (Method method : DeepiceWatch.class.getDeclaredMethods()) {
            if (Modifier.isPublic(method.getModifiers())) {
                got.add(declared(method));
                Check.holds(method + " is static", !Modifier.isStatic(method.getModifiers()));
            }
        }
        Check.holds("the face is " + got, got.equals(due));
    }

    private static String declared(Method method) {
        StringBuilder text = new StringBuilder(method.getReturnType() + " " + method.getName() + "(");
        for (Class<?> type : method.getParameterTypes()) {
            text.append(text.charAt(text.length() - 1) == '(' ? "" : ",").append(type);
        }
        text.append(')');
        for (Class<?> thrown : method.getExceptionTypes()) {
            text.append(text.indexOf(" throws ") < 0 ? " throws " : ",").append(thrown.getSimpleName());
        }
        return text.toString();
    }

    /** The source declares them in the document's order and with its names. */
    private static void written(List<String> face, String text) {
        List<String> got = new ArrayList<>();
        Matcher declaration = Pattern.compile("(?m)^    public ([^{;=]*?)\\s*\\{").matcher(text);
        while (declaration.find()) {
            got.add(declaration.group(1).replaceAll("\\s+", " "));
        }
        Check.alike("the source's face", got, face);
    }

    /** Each promise has its call of the face, and where it is written out, as there. */
    private static void promises(List<String> face) {
        Matcher heading = Pattern.compile("(?m)^## Promise (\\d+): (.*)$").matcher(Sentences.document());
        int promise = 0;
        while (heading.find()) {
            promise++;
            Check.same("the number of a promise", Integer.parseInt(heading.group(1)), promise);
            String declaration = face.get(promise - 1);
            boolean named = promise == 1 || declaration.contains(" " + heading.group(2) + "(");
            Check.holds(declaration + " is not " + heading.group(2), named);
            String section = Sentences.section("Promise " + promise);
            if (section.startsWith(" `")) {
                Check.holds("promise " + promise, section.startsWith(" `" + declaration + "`: "));
            }
        }
        Check.same("promises", promise, PROMISES);
    }

    /** Ahead of the first of these calls, and behind the last of those ahead of it, the source says so, too. */
    private static void headings(String text) {
        Matcher heading = HEADING.matcher(Sentences.section("Terms"));
        int found = 0;
        while (heading.find()) {
            found++;
            Sentences.of("Terms", heading.group());
            int from = text.indexOf("    // ---- " + heading.group(2) + "\n");
            int to = text.indexOf("    // ---- ", from + 1);
            Check.holds("the source does not say: " + heading.group(2), from >= 0 && from < to);
            List<String> names = new ArrayList<>();
            Matcher method = Pattern.compile("(?m)^    public \\w+ (\\w+)\\(").matcher(text).region(Math.max(from, 0), to);
            while (method.find()) {
                names.add("`" + method.group(1) + "`");
            }
            Check.alike("ahead of", String.join(", ", names), heading.group(1));
        }
        Check.same("headings", found, 7);
    }

    private static void members() {
        Check.same("public and final", DeepiceWatch.class.getModifiers(), Modifier.PUBLIC | Modifier.FINAL);
        Constructor<?>[] constructors = DeepiceWatch.class.getDeclaredConstructors();
        Check.same("one constructor", constructors.length, 1);
        Check.same("a public one", Modifier.isPublic(constructors[0].getModifiers()), true);
        Check.same("without arguments", constructors[0].getParameterCount(), 0);
        for (Method method : DeepiceWatch.class.getDeclaredMethods()) {
            int seen = method.getModifiers() & (Modifier.PUBLIC | Modifier.PRIVATE);
            Check.holds(method + " is neither public nor private", seen != 0 || method.isSynthetic());
        }
        for (Field field : DeepiceWatch.class.getDeclaredFields()) {
            Check.holds(field + " is not private", Modifier.isPrivate(field.getModifiers()));
        }
    }

    /** Rules 1, 2, 5 and 11. */
    private static void classesInside(List<String> face) {
        Set<String> names = new TreeSet<>();
        for (String declaration : face) {
            names.add(declaration.replaceAll("\\(.*", "").replaceAll(".* ", ""));
        }
        List<Class<?>> all = new ArrayList<>(List.of(DeepiceWatch.class.getDeclaredClasses()));
        Check.holds("some twelve classes", all.size() + 1 <= 12);
        for (Class<?> inside : all) {
            Check.holds(inside + " is not static", Modifier.isStatic(inside.getModifiers()));
            Check.holds(inside + " is public", !Modifier.isPublic(inside.getModifiers()));
            Check.same(inside + " has classes of its own", inside.getDeclaredClasses().length, 0);
        }
        all.add(DeepiceWatch.class);
        for (Class<?> each : all) {
            for (Method method : each.getDeclaredMethods()) {
                boolean ofFace = each == DeepiceWatch.class && Modifier.isPublic(method.getModifiers());
                Check.holds(method + " bears a name of the face", ofFace || !names.contains(method.getName()));
                Check.holds(method + " takes too much", method.getParameterCount() <= 7);
            }
            int own = 0;
            for (Field field : each.getDeclaredFields()) {
                boolean fixed = Modifier.isStatic(field.getModifiers());
                boolean moving = fixed && !Modifier.isFinal(field.getModifiers());
                Check.holds(field + " is static and not final", !moving);
                Class<?> type = field.getType();
                boolean plain = type == int.class || type == long.class || type == char.class || type == boolean.class;
                Check.holds(field + " is no constant of rule 5", !fixed || plain);
                own += fixed ? 0 : 1;
            }
            Check.holds(each + " has too many fields", own <= 20);
        }
    }

    /** Rule 4. */
    private static void imports(String text) {
        for (String line : text.split("\n")) {
            if (line.startsWith("import ")) {
                boolean known = line.equals("import java.util.ArrayList;")
                        || line.equals("import java.util.NoSuchElementException;");
                Check.holds(line, known);
            }
            Check.holds("not ASCII: " + line, line.chars().allMatch(c -> c < 127));
        }
        Matcher library = Pattern.compile("\\b(Math|Integer|Long|Arrays|System|String|List)\\.(\\w+)").matcher(text);
        while (library.find()) {
            Check.holds(library.group(), Set.of("Math.min", "Math.max", "Integer.bitCount").contains(library.group()));
        }
    }

    /** Rules 2 to 6, 10 and 13. */
    private static void words(String text) {
        for (String banned : new String[] {"->", "::", "finally", "synchronized", "assert", "try", "catch",
            "toString", "equals", "hashCode", "Exact(", "package ", "System", "Object", "Throwable", "Random", "Thread",
            "null", "instanceof", "static {", "\" +", "+ \"", "@"}) {
            Check.holds("the source has " + banned, !text.contains(banned));
        }
        Matcher thrown = Pattern.compile("throw\\b[^;]*;").matcher(text);
        while (thrown.find()) {
            String statement = "throw new (IllegalState|IllegalArgument|IndexOutOfBounds|Arithmetic|UnsupportedOperation|"
                    + "NoSuchElement)(Exception)\\(\"[a-z0-9, ]+\"\\);";
            Check.holds(thrown.group(), thrown.group().matches(statement));
        }
    }

    /** Rule 11: some sixty lines. */
    private static void methods(String text) {
        int plain = 0;
        for (String line : text.split("\n")) {
            plain = line.matches(" {4}(    )?}") ? 0 : plain + 1;
            Check.holds("too long a method ends at: " + line, plain <= 60);
        }
    }

    /** Rule 6: no constructor throws; rule 9: each loop has a bound or a list's size in its own line. */
    private static void classes(String text) {
        Matcher constructor = Pattern.compile("(?m)^ {4,8}(public )?[A-Z]\\w+\\([^)]*\\) \\{(.|\n)*?\n {4,8}}").matcher(text);
        int found = 0;
        while (constructor.find()) {
            found++;
            Check.holds(constructor.group(), !constructor.group().contains("throw"));
        }
        Check.holds("constructors were found, " + found, found >= 5);
        Matcher loop = Pattern.compile("(?m)^ *(for|while|do)\\b.*$").matcher(text);
        while (loop.find()) {
            Check.holds(loop.group(), loop.group().matches(".*[<>].*"));
        }
    }
}
