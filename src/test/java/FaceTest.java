import java.io.IOException;
import java.lang.reflect.Constructor;
import java.lang.reflect.Field;
import java.lang.reflect.Method;
import java.lang.reflect.Modifier;
import java.nio.charset.StandardCharsets;
import java.nio.file.Files;
import java.nio.file.Path;
import java.util.ArrayList;
import java.util.List;
import java.util.Set;
import java.util.TreeSet;

/** The public face of the document, method by method, and those rules of LANGUAGE.md that can be read off. */
public final class FaceTest {
    private static final String[] FACE = {
        "int addString(int,int) IllegalArgumentException IllegalStateException",
        "boolean setOuter(int,boolean) IndexOutOfBoundsException",
        "int addEye(int,int) IndexOutOfBoundsException IllegalArgumentException IllegalStateException",
        "char setEye(int,char) IndexOutOfBoundsException IllegalArgumentException",
        "int distance(int,int) IndexOutOfBoundsException",
        "int setLayer(int,int,int) IllegalArgumentException IllegalStateException",
        "int scatteringAt(int)",
        "int version()",
        "int chargeAt(int,int,int,int,int) IndexOutOfBoundsException IllegalArgumentException",
        "int delayTo(int,int,int,int) IndexOutOfBoundsException IllegalArgumentException",
        "int flash(int,int,int,int,int) IllegalArgumentException",
        "int pass(int,int,int,int,int,int,int) IllegalArgumentException",
        "int noise(int) IllegalArgumentException IllegalStateException",
        "int seed(int) IllegalArgumentException",
        "int setClock(int,int,int) IndexOutOfBoundsException IllegalArgumentException",
        "long call(int,int) IndexOutOfBoundsException IllegalArgumentException UnsupportedOperationException",
        "long mended(int,int) IndexOutOfBoundsException",
        "int pulses()",
        "long pulseAt(int,char) IndexOutOfBoundsException IllegalArgumentException",
        "int wipe()",
        "int setTrigger(int,int) IllegalArgumentException",
        "int setPartner(int,int) IllegalArgumentException",
        "int events()",
        "long eventAt(int,char) IndexOutOfBoundsException IllegalArgumentException",
        "int placeOf(int,char) IndexOutOfBoundsException IllegalArgumentException NoSuchElementException",
        "int speedOf(int,char) IndexOutOfBoundsException IllegalArgumentException NoSuchElementException",
        "char kindOf(int) IndexOutOfBoundsException NoSuchElementException",
        "long energyOf(int) IndexOutOfBoundsException NoSuchElementException",
        "boolean isVetoed(int) IndexOutOfBoundsException",
        "boolean vote(int,int) IllegalArgumentException",
        "int look(int) IllegalArgumentException IllegalStateException",
        "boolean claim(int) IllegalArgumentException IllegalStateException UnsupportedOperationException",
        "int trialsOf(int) IllegalArgumentException NoSuchElementException",
        "boolean takeBack(int) IllegalArgumentException",
        "int trials()",
        "int closeDay() IllegalStateException",
        "int days()",
        "long keptAt(int,int,char) IndexOutOfBoundsException IllegalArgumentException",
        "char keptKind(int,int) IndexOutOfBoundsException",
        "int redo(int) IndexOutOfBoundsException",
        "long checksum()",
        "float loudShare() ArithmeticException",
        "double meanCharge() ArithmeticException",
        "boolean isSound()",
    };

    public static void main(String[] args) throws IOException {
        face();
        members();
        classesInside();
        source();
        Check.end();
    }

    private static void face() {
        Set<String> due = new TreeSet<>(List.of(FACE));
        Set<String> got = new TreeSet<>();
        for (Method method : DeepiceWatch.class.getDeclaredMethods()) {
            if (Modifier.isPublic(method.getModifiers())) {
                got.add(written(method));
                Check.holds(method + " is static", !Modifier.isStatic(method.getModifiers()));
            }
        }
        Check.holds("the face is " + got, got.equals(due));
    }

    private static String written(Method method) {
        StringBuilder text = new StringBuilder(method.getReturnType() + " " + method.getName() + "(");
        for (Class<?> type : method.getParameterTypes()) {
            text.append(text.charAt(text.length() - 1) == '(' ? "" : ",").append(type);
        }
        text.append(')');
        for (Class<?> thrown : method.getExceptionTypes()) {
            text.append(' ').append(thrown.getSimpleName());
        }
        return text.toString();
    }

    private static void members() {
        Check.same("public and final", DeepiceWatch.class.getModifiers(), Modifier.PUBLIC | Modifier.FINAL);
        Constructor<?>[] constructors = DeepiceWatch.class.getDeclaredConstructors();
        Check.same("one constructor", constructors.length, 1);
        Check.same("a public one", Modifier.isPublic(constructors[0].getModifiers()), true);
        Check.same("without arguments", constructors[0].getParameterCount(), 0);
        for (Method method : DeepiceWatch.class.getDeclaredMethods()) {
            int seen = method.getModifiers() & (Modifier.PUBLIC | Modifier.PRIVATE);
            Check.holds(method + " is neither public nor private", seen != 0 || method.isSynthetic());
        }
        for (Field field : DeepiceWatch.class.getDeclaredFields()) {
            Check.holds(field + " is not private", Modifier.isPrivate(field.getModifiers()));
        }
    }

    private static void classesInside() {
        Set<String> names = new TreeSet<>();
        for (String line : FACE) {
            names.add(line.substring(line.indexOf(' ') + 1, line.indexOf('(')));
        }
        List<Class<?>> all = new ArrayList<>(List.of(DeepiceWatch.class.getDeclaredClasses()));
        Check.holds("some twelve classes", all.size() + 1 <= 12);
        for (Class<?> inside : all) {
            Check.holds(inside + " is not static", Modifier.isStatic(inside.getModifiers()));
            Check.holds(inside + " is public", !Modifier.isPublic(inside.getModifiers()));
        }
        all.add(DeepiceWatch.class);
        for (Class<?> each : all) {
            for (Method method : each.getDeclaredMethods()) {
                boolean ofFace = each == DeepiceWatch.class && Modifier.isPublic(method.getModifiers());
                Check.holds(method + " bears a name of the face", ofFace || !names.contains(method.getName()));
                Check.holds(method + " takes too much", method.getParameterCount() <= 7);
            }
            for (Field field : each.getDeclaredFields()) {
                boolean moving = Modifier.isStatic(field.getModifiers()) && !Modifier.isFinal(field.getModifiers());
                Check.holds(field + " is static and not final", !moving);
            }
        }
    }

    private static void source() throws IOException {
        Path path = Path.of("src/main/java/DeepiceWatch.java");
        String text = Files.readString(path, StandardCharsets.UTF_8);
        for (String banned : new String[] {"->", "::", "finally", "synchronized", "assert", "try", "catch",
            "toString", "equals", "hashCode", "Exact(", "package ", "System.out", "Object", "Throwable"}) {
            Check.holds("the source has " + banned, !text.contains(banned));
        }
        int plain = 0;
        for (String line : text.split("\n")) {
            if (line.startsWith("import ")) {
                boolean known = line.equals("import java.util.ArrayList;")
                        || line.equals("import java.util.NoSuchElementException;");
                Check.holds(line, known);
            }
            plain = line.matches(" {4}(    )?}") ? 0 : plain + 1;
            Check.holds("too long a method ends at: " + line, plain <= 60);
            Check.holds("not ASCII: " + line, line.chars().allMatch(c -> c < 127));
        }
    }
}
