import java.lang.reflect.InvocationTargetException;
import java.lang.reflect.Method;
import java.lang.reflect.Modifier;
import java.util.Arrays;
import java.util.HashMap;
import java.util.Map;
import java.util.Random;
import java.util.TreeMap;

/** All promises: runs of 512 calls, from written seeds, each call compared with the model's answer. */
public final class ModelTest {
    private static final int RUNS = 96;
    private static final int CALLS = 512;
    private static final Map<String, Method> METHODS = new HashMap<>();
    private static final String[] OFTEN = {"flash", "flash", "flash", "pass", "pass", "pass", "call", "setClock",
        "look", "claim", "claim", "trialsOf", "vote", "events", "eventAt", "eventAt", "placeOf", "speedOf", "kindOf",
        "energyOf", "isVetoed", "isVetoed", "checksum", "pulseAt", "pulseAt", "keptAt", "keptAt", "keptKind", "redo"};
    private static final String[] SELDOM = {"wipe", "closeDay", "setTrigger", "setPartner", "setOuter", "noise"};

    private static final Map<String, Integer> reached = new TreeMap<>();
    private static Random random;
    private static DeepiceWatch watch;
    private static Model model;
    private static int now;

    public static void main(String[] args) throws IllegalAccessException {
        for (Method method : DeepiceWatch.class.getDeclaredMethods()) {
            if (Modifier.isPublic(method.getModifiers())) {
                METHODS.put(method.getName(), method);
            }
        }
        String[] names = METHODS.keySet().toArray(new String[0]);
        Arrays.sort(names);
        Check.same("methods of the face", names.length, 44);
        for (int run = 0; run < RUNS; run++) {
            run(run, names);
        }
        for (String must : new String[] {"claim made", "claim not made", "claim throws UnsupportedOperationException",
            "kind t", "kind b", "kept -", "kept t", "kept b", "redo others", "redo none", "200 pulses", "vetoed",
            "energyOf throws NoSuchElementException", "13 events", "trialsOf answers"}) {
            Check.holds("the runs do not reach: " + must + ", " + reached, reached.getOrDefault(must, 0) >= 5);
        }
        Check.end();
    }

    private static void run(int run, String[] names) throws IllegalAccessException {
        random = new Random(1000 + run);
        watch = new DeepiceWatch();
        model = new Model();
        now = 0;
        int made = 0;
        boolean wild = run % 8 == 7;
        if (!wild) {
            made = setUp(run);
        }
        for (; made < CALLS; made++) {
            int kind = random.nextInt(20);
            String name = kind < 14 ? pick(OFTEN) : kind == 14 ? pick(SELDOM) : pick(names);
            if (kind > 14 && Arrays.asList("wipe", "closeDay").contains(name) && random.nextInt(4) > 0) {
                name = "isVetoed";
            }
            compare(run, name, random.nextInt(12) == 0 ? wildly(name) : wisely(name));
        }
    }

    private static int setUp(int run) throws IllegalAccessException {
        int made = 0;
        for (int i = 0; i < 6; i++) {
            compare(run, "addString", new Object[] {number(-12, 12), number(-12, 12)});
            made++;
        }
        int eyes = number(8, 24);
        for (int i = 0; i < eyes; i++) {
            compare(run, "addEye", new Object[] {number(0, 5), number(10, 40)});
            made++;
        }
        compare(run, "setTrigger", new Object[] {number(2, 5), number(20, 300)});
        compare(run, "setPartner", new Object[] {number(5, 40), number(20, 300)});
        return made + 2;
    }

    private static String pick(String[] of) {
        return of[random.nextInt(of.length)];
    }

    private static int number(int least, int most) {
        return least + random.nextInt(most - least + 1);
    }

    private static char letter(String of) {
        return of.charAt(random.nextInt(of.length()));
    }

    private static void compare(int run, String name, Object[] arguments) throws IllegalAccessException {
        Object due;
        try {
            due = model.answer(name, arguments);
        } catch (RuntimeException e) {
            due = e.getClass();
        }
        Object got;
        try {
            got = METHODS.get(name).invoke(watch, arguments);
        } catch (InvocationTargetException e) {
            got = e.getCause().getClass();
            boolean own = e.getCause() instanceof RuntimeException && Check.isOwn((RuntimeException) e.getCause());
            Check.holds("run " + run + ": the machine threw in " + name, own);
        }
        boolean same = got.equals(due);
        Check.holds("run " + run + ": " + name + Arrays.toString(arguments) + " answered " + got + ", due is " + due,
                same);
        if (due instanceof Class || random.nextInt(10) == 0) {
            Check.same("run " + run + ": checksum behind " + name, watch.checksum(),
                    ((Long) model.answer("checksum", new Object[0])).longValue());
        }
        note(name, due);
    }

    private static void note(String name, Object answer) {
        if (answer instanceof Class) {
            count(name + " throws " + ((Class<?>) answer).getSimpleName());
        } else if (name.equals("claim")) {
            count((Boolean) answer ? "claim made" : "claim not made");
        } else if (name.equals("kindOf")) {
            count("kind " + answer);
        } else if (name.equals("keptKind")) {
            count("kept " + answer);
        } else if (name.equals("redo")) {
            count((Integer) answer > 0 ? "redo others" : "redo none");
        } else if (name.equals("isVetoed") && (Boolean) answer) {
            count("vetoed");
        } else if (name.equals("events") && (Integer) answer >= 13) {
            count("13 events");
        } else if (name.equals("trialsOf")) {
            count("trialsOf answers");
        }
        if (model.pulses.size() == 200) {
            count("200 pulses");
        }
    }

    private static void count(String what) {
        reached.merge(what, 1, Integer::sum);
    }

    /** Arguments about the edges and far beyond them. */
    private static Object[] wildly(String name) {
        Class<?>[] types = METHODS.get(name).getParameterTypes();
        Object[] arguments = wisely(name);
        for (int i = 0; i < types.length; i++) {
            if (random.nextInt(types.length) == 0) {
                arguments[i] = types[i] == int.class ? (Object) edge()
                        : types[i] == char.class ? (Object) (char) random.nextInt(65536) : (Object) random.nextBoolean();
            }
        }
        return arguments;
    }

    private static Integer edge() {
        int[] edges = {Integer.MIN_VALUE, Integer.MAX_VALUE, -1, 0, 1, 2, 5, 6, 7, 8, 9, 10, 20, 21, -20, -21, 23, 24,
            30, 31, 40, 41, 62, 63, 64, 99, 100, 124, 125, 9999, 10000, -9999, -10000, 99999, 100000, 100001, 999999,
            1000000, 2147483646};
        return edges[random.nextInt(edges.length)];
    }

    private static Object[] wisely(String name) {
        int eye = number(0, Math.max(0, model.eyes.size() - 1));
        int x = number(-14, 14);
        int y = number(-14, 14);
        int z = number(5, 45);
        int strength = random.nextBoolean() ? number(1, 30) : number(30, 600);
        switch (name) {
            case "addString": return new Object[] {number(-20, 20), number(-20, 20)};
            case "setOuter": return new Object[] {number(0, 5), random.nextInt(4) == 0};
            case "addEye": return new Object[] {number(0, 5), number(0, 63)};
            case "setEye": return new Object[] {eye, letter("gggggggdl")};
            case "distance": return new Object[] {eye, number(0, Math.max(0, model.eyes.size() - 1))};
            case "setLayer": return new Object[] {number(0, 63), number(0, 99), number(0, 20)};
            case "scatteringAt": return new Object[] {number(-5, 70)};
            case "chargeAt": return new Object[] {eye, x, y, z, strength};
            case "delayTo": return new Object[] {eye, x, y, z};
            case "flash": return new Object[] {x, y, z, strength, soon()};
            case "pass": return new Object[] {x, y, z, number(0, 124), number(1, 40), strength, soon()};
            case "noise": return new Object[] {number(1, 30)};
            case "seed": return new Object[] {number(1, 2147483646)};
            case "setClock": return new Object[] {eye, number(-200, 200), number(-9999, 9999)};
            case "call": return new Object[] {eye, callTick(eye)};
            case "mended": return new Object[] {eye, random.nextInt()};
            default: return ofTheRest(name);
        }
    }

    private static Object[] ofTheRest(String name) {
        switch (name) {
            case "pulseAt": return new Object[] {number(0, Math.max(0, model.pulses.size() - 1)), letter("etoq")};
            case "setTrigger": return new Object[] {number(2, 6), number(1, 400)};
            case "setPartner": return new Object[] {number(1, 60), number(1, 400)};
            case "eventAt": return new Object[] {event(), letter("flneqk")};
            case "placeOf": return new Object[] {event(), letter("xyz")};
            case "speedOf": return new Object[] {event(), letter("xyz")};
            case "kindOf": case "energyOf": case "isVetoed": return new Object[] {event()};
            case "vote": return new Object[] {number(0, 99), number(0, 60)};
            case "look": case "claim": case "trialsOf": case "takeBack": return new Object[] {number(0, 7)};
            case "keptAt": return new Object[] {day(), number(0, 4), letter("fevi")};
            case "keptKind": return new Object[] {day(), number(0, 4)};
            case "redo": return new Object[] {day()};
            default: return new Object[0];
        }
    }

    private static int event() {
        return number(0, Math.max(0, model.events().size() - 1));
    }

    private static int day() {
        return number(0, Math.max(0, model.days.size() - 1));
    }

    /** Mostly so far behind the last light that an event of its own comes of it. */
    private static int soon() {
        int step = random.nextInt(4);
        now = (now + (step == 0 ? number(0, 100) : number(400, 3000))) % 100000;
        return now;
    }

    private static int callTick(int eye) {
        if (eye >= model.eyes.size() || model.eyes.get(eye).calls.isEmpty()) {
            return number(0, 5000);
        }
        int calls = model.eyes.get(eye).calls.size();
        long last = model.eyes.get(eye).calls.get(calls - 1)[0];
        return (int) Math.min(999999, last + (random.nextInt(3) == 0 ? number(0, 2) : number(1, 9000)));
    }
}
