/** Promises 1 to 9: a new object, strings, eyes, layers. */
public final class FieldTest {
    private static final Class<IllegalArgumentException> ARGUMENT = IllegalArgumentException.class;
    private static final Class<IllegalStateException> STATE = IllegalStateException.class;
    private static final Class<IndexOutOfBoundsException> INDEX = IndexOutOfBoundsException.class;

    public static void main(String[] args) {
        newObject();
        addString();
        setOuter();
        addEye();
        setEye();
        distance();
        setLayer();
        scatteringAt();
        version();
        Check.end();
    }

    private static void newObject() {
        DeepiceWatch w = new DeepiceWatch();
        Check.thrown("1: no string", INDEX, () -> w.setOuter(0, true));
        Check.thrown("1: no eye", INDEX, () -> w.mended(0, 0));
        Check.same("1: version", w.version(), 0);
        Check.same("1: scattering", w.scatteringAt(0), 10);
        Check.same("1: pulses", w.pulses(), 0);
        Check.same("1: events", w.events(), 0);
        Check.same("1: trials", w.trials(), 0);
        Check.same("1: days", w.days(), 0);
        Check.same("1: z", w.seed(5), 1);
        Check.same("1: trigger eyes", w.setTrigger(2, 1), 4);
        Check.same("1: reach", w.setPartner(1, 1), 20);
        DeepiceWatch other = new DeepiceWatch();
        other.addString(1, 1);
        Check.same("1: objects share nothing", w.addString(0, 0), 0);
    }

    private static void addString() {
        DeepiceWatch w = new DeepiceWatch();
        Check.thrown("2: x above", ARGUMENT, () -> w.addString(21, 0));
        Check.thrown("2: x below", ARGUMENT, () -> w.addString(-21, 0));
        Check.thrown("2: y above", ARGUMENT, () -> w.addString(0, 21));
        Check.thrown("2: y below", ARGUMENT, () -> w.addString(0, -21));
        Check.thrown("2: x far below", ARGUMENT, () -> w.addString(Integer.MIN_VALUE, 0));
        Check.same("2: first", w.addString(-20, 20), 0);
        Check.same("2: second", w.addString(20, -20), 1);
        Check.same("2: the same place again", w.addString(20, -20), 2);
        for (int i = 3; i < 6; i++) {
            Check.same("2: number", w.addString(0, i), i);
        }
        Check.thrown("2: a seventh", STATE, () -> w.addString(0, 0));
        Check.thrown("2: range is told first", ARGUMENT, () -> w.addString(0, 99));
    }

    private static void setOuter() {
        DeepiceWatch w = new DeepiceWatch();
        w.addString(0, 0);
        w.addString(1, 0);
        Check.same("3: not at first", w.setOuter(0, true), false);
        Check.same("3: was", w.setOuter(0, true), true);
        Check.same("3: the other one not", w.setOuter(1, false), false);
        Check.same("3: still", w.setOuter(0, false), true);
        Check.same("3: no more", w.setOuter(0, false), false);
        Check.thrown("3: none such", INDEX, () -> w.setOuter(2, true));
        Check.thrown("3: below 0", INDEX, () -> w.setOuter(-1, true));
    }

    private static void addEye() {
        DeepiceWatch w = new DeepiceWatch();
        Check.thrown("4: no string", INDEX, () -> w.addEye(0, 5));
        w.addString(0, 0);
        Check.thrown("4: index is told first", INDEX, () -> w.addEye(1, 99));
        Check.thrown("4: below 0", INDEX, () -> w.addEye(-1, 5));
        Check.thrown("4: z above", ARGUMENT, () -> w.addEye(0, 64));
        Check.thrown("4: z below", ARGUMENT, () -> w.addEye(0, -1));
        Check.same("4: deepest", w.addEye(0, 63), 0);
        Check.same("4: highest", w.addEye(0, 0), 1);
        Check.same("4: the same place again", w.addEye(0, 0), 2);
        for (int i = 3; i < 24; i++) {
            Check.same("4: number", w.addEye(0, i), i);
        }
        Check.thrown("4: a 25th", STATE, () -> w.addEye(0, 5));
        Check.thrown("4: range before state", ARGUMENT, () -> w.addEye(0, 64));
        Check.thrown("4: index before state", INDEX, () -> w.addEye(1, 5));
        Check.thrown("4: none came of it", INDEX, () -> w.distance(24, 0));
    }

    private static void setEye() {
        DeepiceWatch w = new DeepiceWatch();
        w.addString(0, 0);
        w.addEye(0, 10);
        w.addEye(0, 20);
        Check.same("5: good at first", w.setEye(0, 'd'), 'g');
        Check.same("5: was dead", w.setEye(0, 'l'), 'd');
        Check.same("5: was loud", w.setEye(0, 'g'), 'l');
        Check.same("5: good again", w.setEye(0, 'g'), 'g');
        Check.same("5: the other one", w.setEye(1, 'g'), 'g');
        Check.thrown("5: no such state", ARGUMENT, () -> w.setEye(0, 'x'));
        Check.thrown("5: a far sign", ARGUMENT, () -> w.setEye(0, (char) 65535));
        Check.thrown("5: no such eye", INDEX, () -> w.setEye(2, 'g'));
        Check.thrown("5: below 0", INDEX, () -> w.setEye(-1, 'g'));
        Check.thrown("5: index is told first", INDEX, () -> w.setEye(2, 'x'));
    }

    private static void distance() {
        DeepiceWatch w = new DeepiceWatch();
        w.addString(-20, -20);
        w.addString(20, 20);
        w.addString(-19, -18);
        w.addEye(0, 0);
        w.addEye(1, 63);
        w.addEye(2, 2);
        w.addEye(0, 3);
        Check.same("6: to itself", w.distance(1, 1), 0);
        Check.same("6: root of 1600 + 1600 + 3969 = 7169", w.distance(0, 1), 84);
        Check.same("6: back", w.distance(1, 0), 84);
        Check.same("6: root of 1 + 4 + 4", w.distance(0, 2), 3);
        Check.same("6: along the string", w.distance(0, 3), 3);
        Check.same("6: root of 1 + 4 + 1 is cut", w.distance(2, 3), 2);
        Check.thrown("6: the first", INDEX, () -> w.distance(4, 0));
        Check.thrown("6: the second", INDEX, () -> w.distance(0, 4));
        Check.thrown("6: below 0", INDEX, () -> w.distance(0, -1));
    }

    private static void setLayer() {
        DeepiceWatch w = new DeepiceWatch();
        Check.thrown("7: from below", ARGUMENT, () -> w.setLayer(-1, 0, 0));
        Check.thrown("7: from above", ARGUMENT, () -> w.setLayer(64, 0, 0));
        Check.thrown("7: scattering below", ARGUMENT, () -> w.setLayer(0, -1, 0));
        Check.thrown("7: scattering above", ARGUMENT, () -> w.setLayer(0, 100, 0));
        Check.thrown("7: eaten below", ARGUMENT, () -> w.setLayer(0, 0, -1));
        Check.thrown("7: eaten above", ARGUMENT, () -> w.setLayer(0, 0, 21));
        Check.same("7: nothing was told", w.version(), 0);
        Check.same("7: deepest", w.setLayer(63, 99, 20), 1);
        Check.same("7: highest", w.setLayer(0, 0, 0), 2);
        Check.same("7: the same depth", w.setLayer(63, 7, 1), 2);
        Check.same("7: took its place", w.scatteringAt(63), 7);
        for (int i = 3; i <= 6; i++) {
            Check.same("7: count", w.setLayer(10 * i, i, i), i);
        }
        Check.thrown("7: a seventh", STATE, () -> w.setLayer(1, 1, 1));
        Check.thrown("7: range is told first", ARGUMENT, () -> w.setLayer(1, 1, 21));
        Check.same("7: a full ice takes a known depth", w.setLayer(40, 44, 4), 6);
        Check.same("7: and has it", w.scatteringAt(41), 44);
        Check.same("7: the seventh did nothing", w.scatteringAt(1), 0);
        Check.same("7: version", w.version(), 8);
    }

    private static void scatteringAt() {
        DeepiceWatch w = new DeepiceWatch();
        w.setLayer(30, 33, 0);
        w.setLayer(10, 11, 0);
        w.setLayer(20, 22, 0);
        Check.same("8: above all", w.scatteringAt(9), 10);
        Check.same("8: where one begins", w.scatteringAt(10), 11);
        Check.same("8: the last of it", w.scatteringAt(19), 11);
        Check.same("8: the deepest above", w.scatteringAt(20), 22);
        Check.same("8: below all", w.scatteringAt(63), 33);
        Check.same("8: any number", w.scatteringAt(Integer.MAX_VALUE), 33);
        Check.same("8: any number", w.scatteringAt(Integer.MIN_VALUE), 10);
    }

    private static void version() {
        DeepiceWatch w = new DeepiceWatch();
        w.setLayer(3, 10, 5);
        w.setLayer(3, 10, 5);
        Check.same("9: each telling counts, also the same again", w.version(), 2);
        Check.thrown("9: not this", ARGUMENT, () -> w.setLayer(3, 10, 21));
        Check.same("9: what threw does not", w.version(), 2);
    }
}
