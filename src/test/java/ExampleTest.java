import java.lang.reflect.InvocationTargetException;
import java.lang.reflect.Method;
import java.util.HashMap;
import java.util.Map;
import java.util.regex.Matcher;
import java.util.regex.Pattern;

/** The document's examples, each made call by call from its words. */
public final class ExampleTest {
    private static final String HEAD =
            "Examples: each one begins with a new object; behind each call and = stands its result.";
    private static final Pattern CALL = Pattern.compile("(\\w+)\\(([^)]*)\\) = ('.'|-?\\d+)");

    private static int made = 0;

    public static void main(String[] args) throws ReflectiveOperationException {
        lightToAnEye();
        aBall();
        aClock();
        all();
        Sentences.end();
    }

    private static void lightToAnEye() throws ReflectiveOperationException {
        String words = "addString(0, 0) = 0; addEye(0, 10) = 0; chargeAt(0, 0, 0, 13, 100) = 255; delayTo(0, 0, 0, 13) ="
                + " 30; flash(0, 0, 13, 100, 50) = 1; pulseAt(0, 't') = 80.";
        Sentences.of("Terms", words);
        Check.same("calls", calls(words), 6);
    }

    private static void aBall() throws ReflectiveOperationException {
        String words = "addString(0, 0) = 0; addEye(0, 10) = 0; addEye(0, 12) = 1; setTrigger(2, 100) = 4; flash(0, 0, 11,"
                + " 50, 0) = 2; events() = 1; eventAt(0, 'k') = 2; placeOf(0, 'z') = 1100; kindOf(0) = 'b'.";
        Sentences.of("Terms", words);
        Check.same("calls", calls(words), 9);
    }

    private static void aClock() throws ReflectiveOperationException {
        String words = "addString(0, 0) = 0; addEye(0, 5) = 0; setClock(0, 10, 0) = 0; call(0, 1000) = 1010;"
                + " mended(0, 1510) = 1500.";
        Sentences.of("Terms", words);
        Check.same("calls", calls(words), 5);
    }

    /** No call stands between the head and what the interface says that was not made. */
    private static void all() {
        Sentences.of("Terms", HEAD);
        String terms = Sentences.section("Terms");
        int from = terms.indexOf(HEAD);
        int to = terms.indexOf("Ahead of the calls");
        Check.holds("the examples begin and end", from >= 0 && from < to);
        Matcher call = CALL.matcher(terms.substring(Math.max(from, 0), Math.max(to, 0)));
        int written = 0;
        while (call.find()) {
            written++;
        }
        Check.same("calls in all", made, written);
    }

    /** Makes each call of an example on one new object; returns how many there were. */
    private static int calls(String words) throws ReflectiveOperationException {
        Map<String, Method> face = new HashMap<>();
        for (Method method : DeepiceWatch.class.getMethods()) {
            face.put(method.getName(), method);
        }
        DeepiceWatch w = new DeepiceWatch();
        int calls = 0;
        Matcher call = CALL.matcher(words);
        while (call.find()) {
            Check.alike(call.group(), answer(w, face.get(call.group(1)), call.group(2)), due(call.group(3)));
            calls++;
        }
        made += calls;
        return calls;
    }

    private static Object answer(DeepiceWatch w, Method method, String words) throws ReflectiveOperationException {
        String[] written = words.isEmpty() ? new String[0] : words.split(", ");
        Object[] arguments = new Object[written.length];
        for (int i = 0; i < written.length; i++) {
            arguments[i] = due(written[i]);
        }
        try {
            return method.invoke(w, arguments);
        } catch (InvocationTargetException e) {
            return e.getCause();
        }
    }

    private static Object due(String word) {
        if (word.startsWith("'")) {
            return word.charAt(1);
        }
        return Integer.valueOf(word);
    }
}
