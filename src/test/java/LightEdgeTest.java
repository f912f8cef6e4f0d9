import java.math.BigInteger;

/** The sentences on light that name a boundary case, each with a test of its own. */
public final class LightEdgeTest {
    private static final int UP = 61;
    private static final int DOWN = 63;
    private static final int DOWN_BY_TWO = 64;
    private static final long MODULUS = 2147483647L;

    public static void main(String[] args) {
        chargeIsCut();
        chargeIsEaten();
        chargeIsAtMost();
        delayIsCut();
        delayOfTheSquare();
        ballSendsOnce();
        stepsOnEachAxis();
        sendsBehindEachStep();
        ticksBehindEachStep();
        sumIsAtMost();
        chargesOfOneCome();
        earliestComes();
        pulseFromOneOn();
        deadEyesHaveNone();
        nextZ();
        nextZWrapsAround();
        lotOfEye();
        lotOfTick();
        noiseOfDeadEyes();
        twoHundredPulses();
        twoHundredOfPassers();
        twoHundredOfNoise();
        Sentences.end();
    }

    /** In ice that eats nothing: 31, 6 and 1 off is a square of 998, 30 and 10 off is one of 1000. */
    private static void chargeIsCut() {
        Sentences.of("Terms", "Light of a strength at a place comes to an eye with a charge of 1000 times the strength,"
                + " divided by 1 and the square of differences summed, cut");
        DeepiceWatch w = Watches.clearEyeAt(20, 10, 30);
        Check.same("10: 1000 / 4 is a whole number", w.chargeAt(0, 19, 9, 29, 1), 250);
        Check.same("10: 1000 / 7 = 142.9", w.chargeAt(0, 19, 9, 28, 1), 142);
        Check.same("10: 1000 / 10 is a whole number", w.chargeAt(0, 17, 10, 30, 1), 100);
        Check.same("10: 1000 / 999 = 1.001", w.chargeAt(0, -11, 4, 31, 1), 1);
        Check.same("10: 1000 / 1001 = 0.999", w.chargeAt(0, -10, 0, 30, 1), 0);
        Check.same("10: 2000 / 1001 = 1.998", w.chargeAt(0, -10, 0, 30, 2), 1);
        Check.same("10: 254000 / 1001 = 253.7", w.chargeAt(0, -10, 0, 30, 254), 253);
        DeepiceWatch corner = Watches.clearEyeAt(20, 20, 63);
        Check.same("10: 7000 / 7170", corner.chargeAt(0, -20, -20, 0, 7), 0);
        Check.same("10: 8000 / 7170", corner.chargeAt(0, -20, -20, 0, 8), 1);
    }

    private static void chargeIsEaten() {
        Sentences.of("Terms", "which then, as often as the distance says, becomes itself times 100 less the hundredths"
                + " that are eaten, divided by 100, cut each time");
        DeepiceWatch w = Watches.eyeAt(0, 0, 30);
        Check.same("10: distance 1 of 3: 250, 237.5", w.chargeAt(0, 1, 1, 31, 1), 237);
        Check.same("10: distance 2 of 4: 200, 190, 180.5", w.chargeAt(0, 2, 0, 30, 1), 180);
        Check.same("10: distance 2 of 8: 111, 105, 99, though 100.2 at once", w.chargeAt(0, 2, 2, 30, 1), 99);
        Check.same("10: distance 3 of 9: 100, 95, 90, 85", w.chargeAt(0, 3, 0, 30, 1), 85);
        Check.same("10: distance 9 of 81: 12, 11, 10, 9, 8, 7, 6, 5, 4, 3", w.chargeAt(0, 9, 0, 30, 1), 3);
        Check.same("10: distance 10 of 100: 9, and ten times 1 less are below 0", w.chargeAt(0, 10, 0, 30, 1), 0);
        w.setLayer(0, 10, 1);
        Check.same("10: a hundredth: 200, 198, 196", w.chargeAt(0, 2, 0, 30, 1), 196);
        w.setLayer(0, 10, 20);
        Check.same("10: 20 hundredths: 200, 160, 128", w.chargeAt(0, 2, 0, 30, 1), 128);
        Check.same("10: 12, 9, 7, 5, 4, 3, 2, 1, 0, 0", w.chargeAt(0, 9, 0, 30, 1), 0);
        w.setLayer(0, 10, 0);
        Check.same("10: nothing is eaten", w.chargeAt(0, 9, 0, 30, 1), 12);
    }

    private static void chargeIsAtMost() {
        Sentences.of("Terms", "divided by 100, cut each time, 255 at most");
        DeepiceWatch w = Watches.clearEyeAt(0, 0, 30);
        Check.same("10: 13000 / 51 = 254.9", w.chargeAt(0, 7, 1, 30, 13), 254);
        Check.same("10: 12000 / 47 = 255.3", w.chargeAt(0, 6, 3, 31, 12), 255);
        Check.same("10: 10000 / 39 = 256.4", w.chargeAt(0, 6, 1, 31, 10), 255);
        Check.same("10: 100000000 at the eye", w.chargeAt(0, 0, 0, 30, 100000), 255);
        w.setLayer(0, 10, 5);
        Check.same("10: 500 and 475: by the last cut, not ahead of it", w.chargeAt(0, 1, 0, 30, 1), 255);
        w.setLayer(0, 10, 20);
        Check.same("10: 500, 400", w.chargeAt(0, 1, 0, 30, 1), 255);
        Check.same("10: 400, 320, 256", w.chargeAt(0, 2, 0, 30, 2), 255);
        Check.same("10: 333, 266, 212", w.chargeAt(0, 2, 1, 30, 2), 212);
        Check.same("a pulse", w.flash(0, 0, 30, 100000, 0), 1);
        Check.same("12: a ball's, too", w.pulseAt(0, 'q'), 255);
    }

    private static void delayIsCut() {
        Sentences.of("Terms", "and it comes 10 times the distance later, and the scattering times the square of the"
                + " distance, divided by 100, cut");
        DeepiceWatch w = Watches.eyeAt(0, 0, 30);
        Check.same("11: 0", w.delayTo(0, 0, 0, 30), 0);
        Check.same("11: 30 and 0.9", w.delayTo(0, 3, 0, 30), 30);
        Check.same("11: 40 and 1.6", w.delayTo(0, 4, 0, 30), 41);
        Check.same("11: 90 and 8.1", w.delayTo(0, 9, 0, 30), 98);
        Check.same("11: 100 and 10", w.delayTo(0, 10, 0, 30), 110);
        w.setLayer(0, 1, 5);
        Check.same("11: 90 and 0.81", w.delayTo(0, 9, 0, 30), 90);
        Check.same("11: 100 and 1", w.delayTo(0, 10, 0, 30), 101);
        w.setLayer(0, 99, 5);
        Check.same("11: 10 and 0.99", w.delayTo(0, 1, 0, 30), 10);
        Check.same("11: 20 and 3.96", w.delayTo(0, 2, 0, 30), 23);
        Check.same("11: 100 and 99", w.delayTo(0, 10, 0, 30), 199);
        w.setLayer(0, 0, 5);
        Check.same("11: 100", w.delayTo(0, 10, 0, 30), 100);
        DeepiceWatch corner = Watches.eyeAt(20, 20, 63);
        corner.setLayer(0, 99, 5);
        Check.same("11: 840 and 6985.44, the most there is", corner.delayTo(0, -20, -20, 0), 7825);
    }

    private static void delayOfTheSquare() {
        Sentences.of("Terms", "the scattering times the square of the distance");
        DeepiceWatch w = Watches.eyeAt(0, 0, 30);
        Check.same("11: of 4, 40 and 1.6, not of 24, 2.4", w.delayTo(0, 2, 2, 34), 41);
        w.setLayer(0, 50, 5);
        Check.same("11: of 1, 10 and 0.5, not of 3, 1.5", w.delayTo(0, 1, 1, 31), 10);
        Check.same("11: of 2, 20 and 2, not of 8, 4", w.delayTo(0, 2, 2, 30), 22);
    }

    private static void ballSendsOnce() {
        Sentences.of("Terms", "A ball sends it once.");
        DeepiceWatch w = Watches.eyeAt(0, 0, 30);
        w.addEye(0, 30);
        Check.same("12: one each", w.flash(3, 0, 30, 1, 1000), 2);
        Check.same("12: in all", w.pulses(), 2);
        for (int i = 0; i < 2; i++) {
            Check.same("12: of each eye", w.pulseAt(i, 'e'), i);
            Check.same("12: 85 once", w.pulseAt(i, 'q'), 85);
            Check.same("12: 30 later", w.pulseAt(i, 't'), 1030);
        }
    }

    /** From (4, 4, 4) off 20; nearer on one axis 1000 / 42 and / 37, farther 1000 / 58 and / 69. */
    private static void stepsOnEachAxis() {
        Sentences.of("Terms", "A passer goes from a place by steps, each the same, -2 to 2 for each axis");
        int[] perStep = {25, 5, 1};
        int[] due = {20 + 27, 20 + 23, 0, 20 + 17, 20 + 14};
        for (int axis = 0; axis < 3; axis++) {
            for (int by = -2; by <= 2; by++) {
                if (by != 0) {
                    DeepiceWatch w = Watches.clearEyeAt(0, 0, 30);
                    int step = 62 + by * perStep[axis];
                    Check.same("13: one pulse", w.pass(4, 4, 34, step, 1, 1, 0), 1);
                    Check.same("13: axis " + axis + " by " + by, w.pulseAt(0, 'q'), due[by + 2]);
                }
            }
        }
        DeepiceWatch w = Watches.clearEyeAt(0, 0, 30);
        w.pass(4, 4, 34, 12, 2, 1, 0);
        Check.same("13: the second step is as the first: 1000 / 33", w.pulseAt(0, 'q'), 20 + 27 + 30);
        w.wipe();
        w.pass(4, 4, 34, 0, 2, 1, 0);
        Check.same("13: the least of each, twice, to the eye: 20 + 76 + 255", w.pulseAt(0, 'q'), 255);
        w.wipe();
        w.pass(4, 4, 34, 124, 2, 1, 0);
        Check.same("13: the greatest of each, twice: 1000 / 109, 1000 / 193", w.pulseAt(0, 'q'), 20 + 9 + 5);
    }

    /** From (20, 0, 0) down past (0, 0, 20): the charge is 2 as far as 9 off in depth, else 1. */
    private static void sendsBehindEachStep() {
        Sentences.of("Terms", "and sends it at its beginning and behind each step");
        int[][] due = {{1, 2}, {2, 3}, {10, 11}, {11, 13}, {39, 59}, {40, 60}};
        for (int[] steps : due) {
            DeepiceWatch w = Watches.clearEyeAt(0, 0, 20);
            w.pass(20, 0, 0, DOWN, steps[0], 1, 0);
            Check.same("13: " + steps[0] + " steps", w.pulseAt(0, 'q'), steps[1]);
        }
        DeepiceWatch near = Watches.eyeAt(0, 0, 30);
        near.pass(0, 0, 30, DOWN, 1, 1, 0);
        Check.same("13: at its beginning", near.pulseAt(0, 't'), 0);
        DeepiceWatch once = Watches.eyeAt(0, 0, 30);
        Check.same("13: 10 off there is no light", once.flash(0, 0, 20, 1, 0), 0);
        Check.same("13: behind the only step there is", once.pass(0, 0, 20, DOWN, 1, 1, 0), 1);
        Check.same("13: of the last place alone", once.pulseAt(0, 'q'), 3);
    }

    /** Coming nearer by 1 is 10 sooner and a step later 5: the last one comes first. */
    private static void ticksBehindEachStep() {
        Sentences.of("Terms", "5 ticks later each time");
        DeepiceWatch w = Watches.eyeAt(0, 0, 60);
        Check.same("a pulse", w.pass(0, 0, 20, DOWN, 40, 1, 1000), 1);
        Check.same("13: 40 steps, at the eye", w.pulseAt(0, 't'), 1200);
        w.wipe();
        w.pass(0, 0, 20, DOWN, 39, 1, 1000);
        Check.same("13: 39 steps, 1 away", w.pulseAt(0, 't'), 1000 + 195 + 10);
        w.wipe();
        w.pass(0, 0, 59, DOWN, 1, 1, 99999);
        Check.same("13: a step, at the eye", w.pulseAt(0, 't'), 99999 + 5);
        w.wipe();
        w.pass(0, 0, 60, DOWN, 1, 1, 99999);
        Check.same("13: the beginning is not later", w.pulseAt(0, 't'), 99999);
    }

    /** In ice that eats nothing, from places 1 or 2 and so many off in depth. */
    private static void sumIsAtMost() {
        Sentences.of("Terms", "summed, 255 at most, as one pulse");
        DeepiceWatch w = Watches.clearEyeAt(0, 0, 30);
        Check.same("13: one pulse", w.pass(0, 0, 36, DOWN_BY_TWO, 1, 6, 0), 1);
        Check.same("13: 6000 / 37 and 6000 / 65 are 162 and 92", w.pulseAt(0, 'q'), 254);
        w.wipe();
        w.pass(1, 0, 33, DOWN_BY_TWO, 1, 2, 0);
        Check.same("13: 2000 / 11 and 2000 / 27 are 181 and 74", w.pulseAt(0, 'q'), 255);
        w.wipe();
        w.pass(1, 0, 32, DOWN, 1, 1, 0);
        Check.same("13: 1000 / 6 and 1000 / 11 are 166 and 90", w.pulseAt(0, 'q'), 255);
        w.wipe();
        Check.same("13: one pulse", w.pass(0, 0, 30, DOWN, 40, 100000, 0), 1);
        Check.same("13: 41 times 255", w.pulseAt(0, 'q'), 255);
        Check.same("13: in all", w.pulses(), 1);
    }

    /** A charge of 12 from 9 away ends with 1 if 12 hundredths are eaten, and with 0 if 13 are. */
    private static void chargesOfOneCome() {
        Sentences.of("Terms", "to an eye come all charges of 1 or more");
        DeepiceWatch w = edgeOfLayers(12);
        Check.same("13: 12, 10, 8, 7, 6, 5, 4, 3, 2, 1", w.chargeAt(0, 0, 0, 19, 1), 1);
        Check.same("a pulse", w.pass(0, 0, 19, DOWN, 1, 1, 0), 1);
        Check.same("13: 1 and 9", w.pulseAt(0, 'q'), 10);
        Check.same("13: the 1 comes first", w.pulseAt(0, 't'), 98);
        DeepiceWatch none = edgeOfLayers(13);
        Check.same("13: 12, 10, 8, 6, 5, 4, 3, 2, 1, 0", none.chargeAt(0, 0, 0, 19, 1), 0);
        Check.same("a pulse", none.pass(0, 0, 19, DOWN, 1, 1, 0), 1);
        Check.same("13: 9", none.pulseAt(0, 'q'), 9);
        Check.same("13: a charge of 0 does not come", none.pulseAt(0, 't'), 5 + 110);
    }

    /** An eye at 10: from 19 the ice is that of 14, from 20 that of 15, which eats nothing. */
    private static DeepiceWatch edgeOfLayers(int eaten) {
        DeepiceWatch w = Watches.eyeAt(0, 0, 10);
        w.setLayer(0, 10, eaten);
        w.setLayer(15, 10, 0);
        return w;
    }

    /** The other way, light from 20 comes 110 later, and that from 19 at 5 and 98. */
    private static void earliestComes() {
        Sentences.of("Terms", "when the earliest of them comes");
        DeepiceWatch w = edgeOfLayers(12);
        w.pass(0, 0, 20, UP, 1, 1, 1000);
        Check.same("13: the second", w.pulseAt(0, 't'), 1103);
        w.wipe();
        w.pass(0, 0, 18, DOWN, 1, 3, 1000);
        Check.same("13: the first", w.pulseAt(0, 't'), 1086);
        DeepiceWatch none = edgeOfLayers(13);
        none.pass(0, 0, 20, UP, 1, 1, 1000);
        Check.same("13: the second would be earlier and has no charge", none.pulseAt(0, 't'), 1110);
        DeepiceWatch middle = Watches.eyeAt(0, 0, 30);
        middle.pass(0, 0, 27, DOWN, 6, 1, 1000);
        Check.same("13: the one in the middle", middle.pulseAt(0, 't'), 1015);
    }

    private static void pulseFromOneOn() {
        Sentences.of("Terms", "An eye that is not dead has a pulse if the charge is 1 or more.");
        DeepiceWatch w = Watches.clearEyeAt(20, 10, 30);
        Check.same("12: a charge of 1", w.flash(-11, 4, 31, 1, 0), 1);
        Check.same("12: is kept", w.pulseAt(0, 'q'), 1);
        Check.same("12: a charge of 0", w.flash(-10, 0, 30, 1, 0), 0);
        Check.same("13: of 0 twice", w.pass(-10, 0, 30, 12, 1, 1, 0), 0);
        Check.same("13: of 0, then of 1000 / 965", w.pass(-10, 0, 30, 72, 1, 1, 100), 1);
        Check.same("13: is kept", w.pulseAt(1, 'q'), 1);
        Check.same("12: two are kept", w.pulses(), 2);
        w.setEye(0, 'l');
        Check.same("12: a loud one has it, too", w.flash(-11, 4, 31, 1, 0), 1);
        Check.same("13: a loud one has it, too", w.pass(-11, 4, 31, 12, 1, 1, 0), 1);
    }

    private static void deadEyesHaveNone() {
        Sentences.of("Terms", "An eye that is not dead has a pulse");
        DeepiceWatch w = Watches.eyeAt(0, 0, 30);
        w.addEye(0, 31);
        w.setEye(0, 'd');
        Check.same("12: of the other one", w.flash(0, 0, 30, 1, 0), 1);
        Check.same("12: 1 away", w.pulseAt(0, 'e'), 1);
        Check.same("13: of the other one", w.pass(0, 0, 30, DOWN, 1, 1, 0), 1);
        w.setEye(1, 'd');
        Check.same("12: all are dead", w.flash(0, 0, 30, 100000, 0), 0);
        Check.same("13: all are dead", w.pass(0, 0, 30, DOWN, 40, 100000, 0), 0);
        Check.same("12: two are kept", w.pulses(), 2);
        w.setEye(0, 'g');
        Check.same("12: a good one again", w.flash(0, 0, 30, 1, 0), 1);
    }

    // ---- noise

    private static long next(long z) {
        return BigInteger.valueOf(z).multiply(BigInteger.valueOf(48271)).mod(BigInteger.valueOf(MODULUS)).longValue();
    }

    /** What z must be for that it is another number two draws later. */
    private static int twoDrawsAhead(long z) {
        BigInteger back = BigInteger.valueOf(48271).modPow(BigInteger.valueOf(-2), BigInteger.valueOf(MODULUS));
        return BigInteger.valueOf(z).multiply(back).mod(BigInteger.valueOf(MODULUS)).intValue();
    }

    private static void nextZ() {
        Sentences.of("Terms", "which, 1 at first, becomes z times 48271 modulo 2147483647 ahead of each");
        DeepiceWatch w = Watches.eyeAt(0, 0, 30);
        Check.same("15: 1 at first", w.seed(1), 1);
        w.noise(1);
        Check.same("14: 48271 is below the modulus, its square is 2330089441", w.pulseAt(0, 't'), 182605794 % 100000);
        Check.same("15: two draws", w.seed(1), 182605794);
        w.noise(30);
        long z = 1;
        for (int i = 0; i < 60; i++) {
            z = next(z);
        }
        Check.same("15: 60 draws", w.seed(1), z);
    }

    /** The greatest z is 1 below 0, so it becomes 48271 below the modulus, then 182605794 below it. */
    private static void nextZWrapsAround() {
        Sentences.of("Terms", "becomes z times 48271 modulo 2147483647");
        DeepiceWatch w = Watches.eyeAt(0, 0, 30);
        w.seed(2147483646);
        w.noise(1);
        Check.same("14: its tick", w.pulseAt(0, 't'), 1964877853 % 100000);
        Check.same("15: as far below as 1 comes above", w.seed(44488), 2147483647 - 182605794);
        w.noise(1);
        Check.same("15: 44488 times 48271 is 2147480248, below the modulus", w.seed(44489), next(2147480248));
        w.noise(1);
        Check.same("15: 44489 times 48271 is 2147528519, 44872 above it", w.seed(1), next(44872));
        int before = twoDrawsAhead(1);
        w.seed(before);
        w.noise(1);
        Check.same("15: the least", w.seed(1), 1);
        w.seed(twoDrawsAhead(2147483646));
        w.noise(1);
        Check.same("15: the greatest", w.seed(1), 2147483646);
    }

    /** Seeds by which z is 2092363224, a multiple of 24, then 14300000; and 2113272383, with a rest of 23, then 2999999. */
    private static void lotOfEye() {
        Sentences.of("Terms", "By noise a lot of eye and tick, each by the rest of z");
        DeepiceWatch w = Watches.grid();
        w.seed(1192768514);
        w.noise(1);
        Check.same("14: the first of 24", w.pulseAt(0, 'e'), 0);
        w.wipe();
        w.seed(325207086);
        w.noise(1);
        Check.same("14: the last of 24", w.pulseAt(0, 'e'), 23);
        DeepiceWatch one = Watches.eyeAt(0, 0, 30);
        Check.same("14: the only one", one.noise(30), 30);
        Check.same("14: has them all", one.pulseAt(29, 'e'), 0);
        one.wipe();
        one.addEye(0, 30);
        one.seed(1);
        one.noise(1);
        Check.same("14: 48271 is odd, so the other of two", one.pulseAt(0, 'e'), 1);
        one.wipe();
        one.addEye(0, 30);
        one.seed(1);
        one.noise(1);
        Check.same("14: 48271 is 1 by the rest of three", one.pulseAt(0, 'e'), 1);
    }

    private static void lotOfTick() {
        Sentences.of("Promise 14", "Makes noise: for each pulse the eye, then the tick, below 100000.");
        DeepiceWatch w = Watches.grid();
        w.seed(1192768514);
        w.noise(1);
        Check.same("14: the least tick", w.pulseAt(0, 't'), 0);
        w.wipe();
        w.seed(325207086);
        w.noise(1);
        Check.same("14: the greatest tick", w.pulseAt(0, 't'), 99999);
        w.wipe();
        w.seed(twoDrawsAhead(99999));
        w.noise(1);
        Check.same("14: z itself", w.pulseAt(0, 't'), 99999);
        w.wipe();
        w.seed(twoDrawsAhead(100000));
        w.noise(1);
        Check.same("14: 100000 is too great", w.pulseAt(0, 't'), 0);
        w.wipe();
        w.seed(1);
        w.noise(2);
        Check.same("14: the eye first, 48271 % 24", w.pulseAt(0, 'e'), 7);
        Check.same("14: then the tick, 182605794", w.pulseAt(0, 't'), 5794);
        Check.same("14: then the next eye, 1291394886 % 24", w.pulseAt(1, 'e'), 6);
        Check.same("14: and its tick, 1914720637", w.pulseAt(1, 't'), 20637);
    }

    private static void noiseOfDeadEyes() {
        Sentences.of("Terms", "is a pulse of charge 1, of a dead eye none");
        DeepiceWatch w = Watches.eyeAt(0, 0, 30);
        w.addEye(0, 30);
        w.setEye(1, 'd');
        Check.same("14: the first is of eye 1", w.noise(1), 0);
        Check.same("14: the second is of eye 0", w.noise(1), 1);
        Check.same("14: its charge", w.pulseAt(0, 'q'), 1);
        Check.same("14: its tick is that of the second", w.pulseAt(0, 't'), 20637);
        w.setEye(0, 'd');
        Check.same("14: all are dead", w.noise(30), 0);
        w.setEye(0, 'l');
        w.setEye(1, 'l');
        Check.same("14: all are loud", w.noise(30), 30);
        Check.same("14: in all", w.pulses(), 31);
    }

    // ---- 200 pulses

    private static DeepiceWatch with(int pulses) {
        DeepiceWatch w = Watches.eyeAt(0, 0, 30);
        w.addEye(0, 30);
        for (int kept = 0; kept < pulses; kept += 30) {
            w.noise(Math.min(30, pulses - kept));
        }
        Check.same("pulses", w.pulses(), pulses);
        return w;
    }

    private static void twoHundredPulses() {
        Sentences.of("Terms", "At most 200 pulses are kept; what comes then is lost.");
        DeepiceWatch w = with(198);
        w.setTrigger(9, 1);
        Check.same("12: room for two", w.flash(0, 0, 30, 1, 50), 2);
        Check.same("19: full", w.pulses(), 200);
        Check.same("12: no room", w.flash(0, 0, 30, 1, 60), 0);
        Check.same("19: still full", w.pulses(), 200);
        DeepiceWatch one = with(199);
        long before = one.checksum();
        Check.same("12: room for one", one.flash(0, 0, 30, 1, 99999), 1);
        Check.same("12: it is the last", one.pulseAt(199, 'q'), 255);
        long full = one.checksum();
        Check.holds("12: it is kept", before != full);
        Check.same("12: no room", one.flash(0, 0, 30, 1, 0), 0);
        Check.same("12: what comes is lost, what is kept stays", one.checksum(), full);
        Check.same("21: all", one.wipe(), 200);
        Check.same("12: room again", one.flash(0, 0, 30, 1, 0), 2);
        Check.same("19: two", one.pulses(), 2);
    }

    private static void twoHundredOfPassers() {
        Sentences.of("Terms", "At most 200 pulses are kept");
        DeepiceWatch w = with(199);
        Check.same("13: room for one", w.pass(0, 0, 30, DOWN, 1, 1, 0), 1);
        Check.same("13: no room", w.pass(0, 0, 30, DOWN, 1, 1, 0), 0);
        Check.same("19: full", w.pulses(), 200);
        w.closeDay();
        Check.same("13: room again", w.pass(0, 0, 30, DOWN, 1, 1, 0), 2);
    }

    private static void twoHundredOfNoise() {
        Sentences.of("Terms", "what comes then is lost");
        DeepiceWatch w = with(171);
        Check.same("14: room for 29", w.noise(30), 29);
        Check.same("19: full", w.pulses(), 200);
        Check.same("14: no room", w.noise(1), 0);
        Check.same("14: no room", w.noise(30), 0);
        w.wipe();
        Check.same("14: room again", w.noise(30), 30);
    }
}
