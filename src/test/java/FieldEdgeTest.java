/** The sentences on the field and the ice that name a boundary case, each with a test of its own. */
public final class FieldEdgeTest {
    private static final Class<IllegalStateException> STATE = IllegalStateException.class;
    private static final Class<IndexOutOfBoundsException> INDEX = IndexOutOfBoundsException.class;
    private static final Class<ArithmeticException> ARITHMETIC = ArithmeticException.class;
    private static final int UP = 61;

    public static void main(String[] args) {
        newObject();
        sixStrings();
        notOuterAtFirst();
        twentyFourEyes();
        states();
        distanceIsCut();
        distanceBeyondTheField();
        theSameEye();
        sixLayers();
        scatteringAndPart();
        takesItsPlace();
        beginsThereOrAbove();
        withoutLayer();
        halfOfDepths();
        version();
        anyDepth();
        Sentences.end();
    }

    private static void newObject() {
        Sentences.of("Promise 1", "Creates a watch without strings, layers and pulses.");
        DeepiceWatch w = new DeepiceWatch();
        Check.thrown("1: no string", INDEX, () -> w.setOuter(0, true));
        Check.thrown("1: no string for an eye", INDEX, () -> w.addEye(0, 0));
        Check.thrown("1: no eye", INDEX, () -> w.distance(0, 0));
        Check.same("1: a flash comes to none", w.flash(0, 0, 0, 100000, 0), 0);
        Check.same("1: a passer comes to none", w.pass(0, 0, 0, 63, 40, 100000, 0), 0);
        Check.thrown("1: no noise", STATE, () -> w.noise(1));
        Check.same("1: no pulses", w.pulses(), 0);
        Check.thrown("1: no first pulse", INDEX, () -> w.pulseAt(0, 'e'));
        Check.same("1: none to wipe", w.wipe(), 0);
        Check.same("1: no events", w.events(), 0);
        Check.thrown("1: no first event", INDEX, () -> w.isVetoed(0));
        Check.same("1: no trials", w.trials(), 0);
        Check.same("1: no days", w.days(), 0);
        Check.thrown("1: no first day", INDEX, () -> w.redo(0));
        Check.thrown("1: no share", ARITHMETIC, () -> w.loudShare());
        Check.thrown("1: no mean", ARITHMETIC, () -> w.meanCharge());
        Check.same("1: the sum of three times 0", w.checksum(), 7L * 31 * 31 * 31);
        Check.same("1: sound", w.isSound(), true);
        Check.same("1: the first layer", w.setLayer(0, 0, 0), 1);
        Check.same("1: a day without eyes", w.closeDay(), 0);
        Check.same("1: the first string", w.addString(0, 0), 0);
        Check.same("1: the first eye", w.addEye(0, 0), 0);
    }

    private static void sixStrings() {
        Sentences.of("Terms", "At most 6 strings are numbered from 0, each at a place x and y");
        DeepiceWatch w = new DeepiceWatch();
        for (int i = 0; i < 6; i++) {
            Check.thrown("2: not yet", INDEX, () -> w.setOuter(w.addString(9, 9) + 1, true));
        }
        Check.thrown("2: a seventh", STATE, () -> w.addString(9, 9));
        Check.same("2: the first is there", w.setOuter(0, true), false);
        Check.same("2: the last is there", w.setOuter(5, true), false);
        Check.thrown("2: the seventh is not", INDEX, () -> w.setOuter(6, true));
        DeepiceWatch numbered = new DeepiceWatch();
        for (int i = 0; i < 6; i++) {
            Check.same("2: number", numbered.addString(0, 0), i);
        }
        Check.same("2: an eye on the last", numbered.addEye(5, 0), 0);
    }

    private static void notOuterAtFirst() {
        Sentences.of("Terms", "outer ones or not, not at first");
        DeepiceWatch w = new DeepiceWatch();
        for (int i = 0; i < 6; i++) {
            Check.same("3: not at first", w.setOuter(w.addString(0, 0), i % 2 == 0), false);
        }
        for (int i = 0; i < 6; i++) {
            Check.same("3: each as it was set", w.setOuter(i, true), i % 2 == 0);
        }
    }

    private static void twentyFourEyes() {
        Sentences.of("Terms", "At most 24 eyes are numbered from 0, each on a string at a depth z");
        DeepiceWatch w = new DeepiceWatch();
        w.addString(0, 0);
        w.addString(5, 0);
        for (int i = 0; i < 24; i++) {
            Check.same("4: number", w.addEye(i % 2, i), i);
            int beyond = i + 1;
            Check.thrown("4: not yet", INDEX, () -> w.mended(beyond, 0));
        }
        Check.thrown("4: a 25th", STATE, () -> w.addEye(0, 24));
        Check.thrown("4: is not there", INDEX, () -> w.mended(24, 0));
        Check.same("4: from the first to the last but one", w.distance(0, 22), 22);
        Check.same("4: from the first to the last, on the other string", w.distance(1, 23), 22);
        Check.same("4: the root of 25 and 529", w.distance(0, 23), 23);
    }

    private static void states() {
        Sentences.of("Terms", "An eye is good 'g', at first, dead 'd', or loud 'l'.");
        DeepiceWatch w = new DeepiceWatch();
        w.addString(0, 0);
        for (int i = 0; i < 24; i++) {
            w.addEye(0, 0);
            Check.same("5: good at first", w.setEye(i, "gdl".charAt(i % 3)), 'g');
        }
        for (int i = 0; i < 24; i++) {
            Check.same("5: each as it was set", w.setEye(i, 'g'), "gdl".charAt(i % 3));
        }
    }

    /** All pairs of 24 eyes: a square is not above the sum, and the next one is. */
    private static void distanceIsCut() {
        Sentences.of("Terms", "The distance of two places is the greatest whole number whose square is not above the sum"
                + " of the squares of their differences.");
        int[][] strings = {{-20, -20}, {20, 20}, {-20, 20}, {0, 0}, {1, 0}, {3, 4}};
        int[] depths = {0, 1, 12, 63};
        DeepiceWatch w = new DeepiceWatch();
        for (int[] at : strings) {
            int string = w.addString(at[0], at[1]);
            for (int z : depths) {
                w.addEye(string, z);
            }
        }
        for (int i = 0; i < 24; i++) {
            for (int j = i; j < 24; j++) {
                int sum = 0;
                for (int axis = 0; axis < 2; axis++) {
                    sum += (int) Math.pow(strings[i / 4][axis] - strings[j / 4][axis], 2);
                }
                sum += (int) Math.pow(depths[i % 4] - depths[j % 4], 2);
                int distance = w.distance(i, j);
                Check.holds("6: " + distance + " of " + sum, distance * distance <= sum);
                Check.holds("6: " + distance + " is not the greatest of " + sum, (distance + 1) * (distance + 1) > sum);
            }
        }
        Check.same("6: of 0", w.distance(12, 12), 0);
        Check.same("6: of 1", w.distance(12, 13), 1);
        Check.same("6: of 1 and 1", w.distance(12, 17), 1);
        Check.same("6: of 9 and 16", w.distance(12, 20), 5);
        Check.same("6: of 25 and 144", w.distance(12, 22), 13);
        Check.same("6: of 25 and 121, 2 more than 144", w.distance(13, 22), 12);
        Check.same("6: of 3969", w.distance(0, 3), 63);
        Check.same("6: of 1600, 1600 and 3969, the most there is", w.distance(0, 7), 84);
        squares();
    }

    /** 15 is 1 below a square, 16 is one; 24 and 25; 48 and 49: 4 * 4 twice and thrice, and 2 * 2, 3 * 3, 6 * 6. */
    private static void squares() {
        DeepiceWatch w = Watches.eyeAt(0, 0, 30);
        Check.same("6: 2 and 2 and 4 are 24", w.delayTo(0, 2, 2, 34), 40 + 1);
        Check.same("6: 0 and 3 and 4 are 25", w.delayTo(0, 0, 3, 34), 50 + 2);
        Check.same("6: 4 and 4 and 4 are 48", w.delayTo(0, 4, -4, 26), 60 + 3);
        Check.same("6: 2 and 3 and 6 are 49", w.delayTo(0, -2, -3, 24), 70 + 4);
        Check.same("6: 1 and 1 and 1 are 3", w.delayTo(0, -1, 1, 29), 10);
        Check.same("6: 0 and 0 and 2 are 4", w.delayTo(0, 0, 0, 28), 20);
        Check.same("6: 2 and 2 and 0 are 8", w.delayTo(0, 2, -2, 30), 20);
        Check.same("6: 1 and 2 and 2 are 9", w.delayTo(0, 1, -2, 28), 30);
    }

    /**
     * By 29 steps of -2, -2 and 2 a passer comes from (-20, -20, 63) to (-78, -78, 121): 9604 and 9604 and 14641 from
     * (20, 20, 0) are 33849, and 183 times 183 is 33489. There the ice begins that eats nothing, with a scattering of 7:
     * 5 times 29, 1830, and 234423 hundredths.
     */
    private static void distanceBeyondTheField() {
        Sentences.of("Terms", "The distance of two places is the greatest whole number");
        DeepiceWatch w = Watches.eyeAt(20, 20, 0);
        w.setLayer(0, 0, 20);
        w.setLayer(60, 7, 0);
        Check.same("13: in murky ice nothing comes", w.pass(-20, -20, 63, 4, 28, 100000, 0), 0);
        Check.same("13: from far behind it", w.pass(-20, -20, 63, 4, 29, 100000, 0), 1);
        Check.same("13: from 183 away", w.pulseAt(0, 't'), 145 + 1830 + 2344);
        w.wipe();
        w.setLayer(60, 0, 20);
        w.setLayer(63, 7, 0);
        w.pass(-20, -20, 63, 4, 40, 100000, 0);
        Check.same("13: 32 steps, the root of 10816 and 10816 and 16129 is 194", w.pulseAt(0, 't'), 160 + 1940 + 2634);
    }

    private static void theSameEye() {
        Sentences.of("Promise 6", "`other`: another one, or the same");
        DeepiceWatch w = Watches.grid();
        w.setEye(5, 'd');
        for (int i = 0; i < 24; i++) {
            Check.same("6: the same", w.distance(i, i), 0);
        }
        Check.same("6: another one", w.distance(0, 6), 20);
        Check.same("6: the other way", w.distance(6, 0), 20);
        Check.same("6: a dead one", w.distance(5, 0), 50);
    }

    private static void sixLayers() {
        Sentences.of("Terms", "At most 6 layers each begin at a depth");
        DeepiceWatch w = new DeepiceWatch();
        int[] from = {63, 0, 31, 32, 1, 62};
        for (int i = 0; i < 6; i++) {
            Check.same("7: so many", w.setLayer(from[i], 20 + i, i), i + 1);
        }
        Check.thrown("7: a seventh", STATE, () -> w.setLayer(30, 99, 9));
        for (int i = 0; i < 6; i++) {
            Check.same("7: each begins at its depth", w.scatteringAt(from[i]), 20 + i);
        }
        Check.same("7: not the seventh", w.scatteringAt(30), 24);
        Check.same("9: six were told", w.version(), 6);
    }

    private static void scatteringAndPart() {
        Sentences.of("Terms", "with a scattering, 0 to 99, and a part that is eaten, 0 to 20 hundredths");
        DeepiceWatch w = Watches.eyeAt(0, 0, 10);
        w.setLayer(0, 0, 20);
        Check.same("11: without scattering", w.delayTo(0, 10, 0, 10), 100);
        Check.same("10: 1000 / 5 = 200, 160, 128", w.chargeAt(0, 2, 0, 10, 1), 128);
        w.setLayer(0, 99, 0);
        Check.same("11: with 99", w.delayTo(0, 10, 0, 10), 199);
        Check.same("10: nothing is eaten", w.chargeAt(0, 2, 0, 10, 1), 200);
    }

    private static void takesItsPlace() {
        Sentences.of("Terms", "one that is told at the depth of another one takes its place");
        DeepiceWatch w = Watches.eyeAt(0, 0, 10);
        Check.same("7: one", w.setLayer(10, 30, 20), 1);
        Check.same("7: still one", w.setLayer(10, 40, 0), 1);
        Check.same("7: its scattering", w.scatteringAt(10), 40);
        Check.same("7: its part", w.chargeAt(0, 2, 0, 10, 1), 200);
        Check.same("7: one deeper does not", w.setLayer(11, 50, 0), 2);
        Check.same("7: one higher does not", w.setLayer(9, 60, 0), 3);
        Check.same("7: its scattering", w.scatteringAt(10), 40);
        for (int i = 4; i <= 6; i++) {
            w.setLayer(10 * i, 10, 5);
        }
        for (int from : new int[] {9, 10, 11, 40, 50, 60}) {
            Check.same("7: six, and no more", w.setLayer(from, from, 1), 6);
            Check.same("7: also of six", w.scatteringAt(from), from);
        }
    }

    private static void beginsThereOrAbove() {
        Sentences.of("Terms", "A depth has the layer that begins there or above it, of several the deepest");
        DeepiceWatch w = new DeepiceWatch();
        w.setLayer(21, 31, 1);
        w.setLayer(20, 32, 2);
        w.setLayer(63, 33, 3);
        w.setLayer(0, 34, 4);
        Check.same("8: the highest depth", w.scatteringAt(0), 34);
        Check.same("8: just above", w.scatteringAt(19), 34);
        Check.same("8: there", w.scatteringAt(20), 32);
        Check.same("8: the next one begins 1 deeper", w.scatteringAt(21), 31);
        Check.same("8: below it", w.scatteringAt(22), 31);
        Check.same("8: just above the deepest", w.scatteringAt(62), 31);
        Check.same("8: the deepest depth", w.scatteringAt(63), 33);
        Check.same("8: below the field", w.scatteringAt(64), 33);
    }

    private static void withoutLayer() {
        Sentences.of("Terms", "and without one a scattering of 10 and a part of 5");
        DeepiceWatch w = Watches.eyeAt(0, 0, 30);
        Check.same("8: no layer at all", w.scatteringAt(30), 10);
        Check.same("10: 200, 190, 180", w.chargeAt(0, 2, 0, 30, 1), 180);
        Check.same("11: 40 and 1.6", w.delayTo(0, 4, 0, 30), 41);
        w.setLayer(31, 99, 20);
        Check.same("8: none above it", w.scatteringAt(30), 10);
        Check.same("8: there", w.scatteringAt(31), 99);
        Check.same("10: none above it", w.chargeAt(0, 2, 0, 30, 1), 180);
        Check.same("11: none above it", w.delayTo(0, 4, 0, 30), 41);
        w.setLayer(0, 99, 20);
        Check.same("8: above the field there is none", w.scatteringAt(-1), 10);
        Check.same("8: in the field there is", w.scatteringAt(0), 99);
    }

    /** Above the field half of -1 is 0, where the layer begins, and half of -2 is -1, without a layer. */
    private static void halfOfDepths() {
        Sentences.of("Terms", "The ice between two places is that of half of the sum of their depths, cut toward 0.");
        DeepiceWatch w = Watches.eyeAt(0, 0, 10);
        w.setLayer(11, 10, 20);
        Check.same("10: half of 21 is 10: 200, 190, 180 by 2", w.chargeAt(0, 1, 1, 11, 1), 237);
        Check.same("10: half of 22 is 11: 200, 160, 128", w.chargeAt(0, 0, 0, 12, 1), 128);
        Check.same("10: half of 20 is 10", w.chargeAt(0, 2, 0, 10, 1), 180);
        w.setLayer(11, 99, 5);
        Check.same("11: half of 21 is 10: 40 and 1.6", w.delayTo(0, 4, 0, 11), 41);
        Check.same("11: half of 22 is 11: 40 and 15.84", w.delayTo(0, 4, 0, 12), 55);
        DeepiceWatch top = Watches.eyeAt(0, 0, 0);
        top.setLayer(0, 10, 20);
        Check.same("a pulse", top.pass(3, 0, 0, UP, 1, 1, 0), 1);
        Check.same("13: from 0 it is 100, 80, 64, 51, and from -1 it is 90, 72, 57, 45", top.pulseAt(0, 'q'), 96);
        top.wipe();
        top.pass(3, 0, 0, UP, 2, 1, 0);
        Check.same("13: and from -2 it is 71, 67, 63, 59", top.pulseAt(0, 'q'), 155);
        top.wipe();
        top.pass(3, 0, 0, UP, 3, 1, 0);
        Check.same("13: and from -3 it is 52, 49, 46, 43, 40", top.pulseAt(0, 'q'), 195);
        deepest();
        meanPlace();
    }

    /** Half of 63 and 63 is the layer's depth, half of 62 and 63 is not. */
    private static void deepest() {
        DeepiceWatch w = Watches.eyeAt(0, 0, 63);
        w.setLayer(63, 10, 20);
        Check.same("10: half of 126 is 63", w.chargeAt(0, 2, 0, 63, 1), 128);
        Check.same("10: half of 125 is 62: 1000 / 4 = 250, 237", w.chargeAt(0, 1, 1, 62, 1), 237);
    }

    /** From the mean place 15 to eyes at 10 and 20 it is half of 25, 12, and half of 35, 17. */
    private static void meanPlace() {
        DeepiceWatch w = Watches.grid();
        w.setTrigger(2, 100);
        Watches.light(w, 1, 0);
        Watches.light(w, 2, 0);
        Check.same("26: the mean place", w.placeOf(0, 'z'), 1500);
        w.setLayer(0, 10, 0);
        w.setLayer(18, 10, 20);
        Check.same("29: both above the layer: twice 255 times 26", w.energyOf(0), 13);
        w.setLayer(17, 10, 20);
        Check.same("29: one in it: 6630, and 8287, 10358, 12947, 16183, 20228", w.energyOf(0), 26);
        w.setLayer(13, 10, 20);
        Check.same("29: still one in it", w.energyOf(0), 26);
        w.setLayer(12, 10, 20);
        Check.same("29: both in it: twice 20228", w.energyOf(0), 40);
    }

    private static void version() {
        Sentences.of("Terms", "The version of the ice is how often layers were told.");
        DeepiceWatch w = new DeepiceWatch();
        Check.same("9: none", w.version(), 0);
        for (int i = 1; i <= 6; i++) {
            w.setLayer(10 * i, i, i);
            Check.same("9: each", w.version(), i);
        }
        w.setLayer(10, 1, 1);
        Check.same("9: also the same one again", w.version(), 7);
        Check.thrown("9: a seventh", STATE, () -> w.setLayer(11, 1, 1));
        Check.same("9: not what is refused", w.version(), 7);
    }

    private static void anyDepth() {
        Sentences.of("Promise 8", "`depth`: any number");
        DeepiceWatch w = new DeepiceWatch();
        Check.same("8: the least", w.scatteringAt(Integer.MIN_VALUE), 10);
        Check.same("8: the greatest", w.scatteringAt(Integer.MAX_VALUE), 10);
        w.setLayer(0, 50, 5);
        Check.same("8: the least", w.scatteringAt(Integer.MIN_VALUE), 10);
        Check.same("8: -1", w.scatteringAt(-1), 10);
        Check.same("8: 0", w.scatteringAt(0), 50);
        Check.same("8: 64", w.scatteringAt(64), 50);
        Check.same("8: the greatest", w.scatteringAt(Integer.MAX_VALUE), 50);
    }
}
