/** Promises 10 to 15: charges, delays, balls of light, passers, noise. */
public final class LightTest {
    private static final Class<IllegalArgumentException> ARGUMENT = IllegalArgumentException.class;
    private static final Class<IllegalStateException> STATE = IllegalStateException.class;
    private static final Class<IndexOutOfBoundsException> INDEX = IndexOutOfBoundsException.class;
    private static final int UP = 61;
    private static final int DOWN = 63;

    public static void main(String[] args) {
        chargeAt();
        chargeInIce();
        chargeRanges();
        delayTo();
        flash();
        flashRanges();
        flashWhenFull();
        pass();
        passAxes();
        passOutOfTheField();
        passRanges();
        noise();
        noiseOfDeadEyes();
        seed();
        Check.end();
    }

    private static DeepiceWatch withEye(int z) {
        DeepiceWatch w = new DeepiceWatch();
        w.addString(0, 0);
        w.addEye(0, z);
        return w;
    }

    private static void chargeAt() {
        DeepiceWatch w = withEye(10);
        Check.same("10: the document's example", w.chargeAt(0, 0, 0, 13, 100), 255);
        Check.same("10: at the eye", w.chargeAt(0, 0, 0, 10, 1), 255);
        Check.same("10: 1000 / 5 = 200, 190, 180", w.chargeAt(0, 0, 0, 12, 1), 180);
        Check.same("10: 1000 / 10 = 100, 95, 90, 85", w.chargeAt(0, 0, 0, 13, 1), 85);
        Check.same("10: 5000 / 22 = 227, 215, 204, 193, 183", w.chargeAt(0, 1, 2, 14, 5), 183);
        Check.same("10: 1000 / 82 = 12, and nine times less", w.chargeAt(0, 0, 0, 19, 1), 3);
        Check.same("10: nothing is left", w.chargeAt(0, 0, 0, 20, 1), 0);
        Check.same("10: above as below", w.chargeAt(0, 0, 0, 7, 1), 85);
        Check.same("10: no pulse comes of it", w.pulses(), 0);
        w.setEye(0, 'd');
        Check.same("10: light comes to a dead eye, too", w.chargeAt(0, 0, 0, 13, 1), 85);
        DeepiceWatch far = new DeepiceWatch();
        far.addString(20, 20);
        far.addEye(0, 63);
        Check.same("10: the brightest, the farthest", far.chargeAt(0, -20, -20, 0, 100000), 178);
        far.setLayer(0, 10, 0);
        Check.same("10: clear ice, 13947 are 255", far.chargeAt(0, -20, -20, 0, 100000), 255);
        far.setLayer(0, 10, 20);
        Check.same("10: murky ice", far.chargeAt(0, -20, -20, 0, 100000), 0);
    }

    private static void chargeInIce() {
        DeepiceWatch w = withEye(10);
        w.setLayer(12, 10, 20);
        Check.same("10: half of 10 and 13 is 11, above the layer", w.chargeAt(0, 0, 0, 13, 1), 85);
        w.setLayer(11, 10, 20);
        Check.same("10: the layer begins there", w.chargeAt(0, 0, 0, 13, 1), 51);
        w.setLayer(11, 10, 0);
        Check.same("10: nothing is eaten", w.chargeAt(0, 0, 0, 13, 1), 100);
    }

    private static void chargeRanges() {
        DeepiceWatch w = withEye(10);
        Check.thrown("10: no eye", INDEX, () -> w.chargeAt(1, 0, 0, 0, 1));
        Check.thrown("10: no eye below", INDEX, () -> w.chargeAt(-1, 0, 0, 0, 1));
        Check.thrown("10: index is told first", INDEX, () -> w.chargeAt(1, 21, 0, 0, 1));
        Check.thrown("10: x above", ARGUMENT, () -> w.chargeAt(0, 21, 0, 0, 1));
        Check.thrown("10: x below", ARGUMENT, () -> w.chargeAt(0, -21, 0, 0, 1));
        Check.thrown("10: y above", ARGUMENT, () -> w.chargeAt(0, 0, 21, 0, 1));
        Check.thrown("10: y below", ARGUMENT, () -> w.chargeAt(0, 0, -21, 0, 1));
        Check.thrown("10: z above", ARGUMENT, () -> w.chargeAt(0, 0, 0, 64, 1));
        Check.thrown("10: z below", ARGUMENT, () -> w.chargeAt(0, 0, 0, -1, 1));
        Check.thrown("10: strength below", ARGUMENT, () -> w.chargeAt(0, 0, 0, 0, 0));
        Check.thrown("10: strength above", ARGUMENT, () -> w.chargeAt(0, 0, 0, 0, 100001));
        Check.same("10: the corner", w.chargeAt(0, 20, -20, 63, 1), 0);
    }

    private static void delayTo() {
        DeepiceWatch w = withEye(10);
        Check.same("11: at the eye", w.delayTo(0, 0, 0, 10), 0);
        Check.same("11: 30 and 0.9", w.delayTo(0, 0, 0, 13), 30);
        Check.same("11: 40 and 1.6", w.delayTo(0, 0, 0, 14), 41);
        Check.same("11: by the distance 4, not by 21", w.delayTo(0, 1, 2, 14), 41);
        w.setLayer(12, 99, 5);
        Check.same("11: 40 and 15.84", w.delayTo(0, 0, 0, 14), 55);
        Check.same("11: half of 10 and 13 is above the layer", w.delayTo(0, 0, 0, 13), 30);
        w.setLayer(12, 0, 5);
        Check.same("11: no dust", w.delayTo(0, 0, 0, 14), 40);
        Check.thrown("11: no eye", INDEX, () -> w.delayTo(1, 99, 0, 0));
        Check.thrown("11: no eye below", INDEX, () -> w.delayTo(-1, 0, 0, 0));
        Check.thrown("11: x", ARGUMENT, () -> w.delayTo(0, 21, 0, 0));
        Check.thrown("11: y", ARGUMENT, () -> w.delayTo(0, 0, -21, 0));
        Check.thrown("11: z above", ARGUMENT, () -> w.delayTo(0, 0, 0, 64));
        Check.thrown("11: z below", ARGUMENT, () -> w.delayTo(0, 0, 0, -1));
    }

    private static void flash() {
        DeepiceWatch w = withEye(10);
        Check.same("12: the document's example", w.flash(0, 0, 13, 100, 50), 1);
        Check.same("12: its tick", w.pulseAt(0, 't'), 80);
        Check.same("12: its charge", w.pulseAt(0, 'q'), 255);
        w.wipe();
        w.addEye(0, 12);
        w.addEye(0, 30);
        Check.same("12: no pulse where the charge is 0", w.flash(0, 0, 11, 1, 0), 2);
        w.setEye(0, 'd');
        Check.same("12: none of a dead eye", w.flash(0, 0, 11, 1, 0), 1);
        w.setEye(0, 'l');
        Check.same("12: one of a loud eye", w.flash(0, 0, 11, 1, 99999), 2);
        Check.same("12: kept in all", w.pulses(), 5);
        Check.same("12: the last tick", w.pulseAt(4, 't'), 100009);
        w.setEye(1, 'd');
        Check.same("12: 1000 / 98 = 10, and nine times 1 less", w.chargeAt(0, 9, 0, 14, 1), 1);
        Check.same("12: a charge of 1 is enough", w.flash(9, 0, 14, 1, 0), 1);
        DeepiceWatch none = new DeepiceWatch();
        Check.same("12: no eyes", none.flash(0, 0, 0, 1, 0), 0);
    }

    private static void flashRanges() {
        DeepiceWatch w = withEye(10);
        Check.thrown("12: x", ARGUMENT, () -> w.flash(-21, 0, 10, 1, 0));
        Check.thrown("12: y", ARGUMENT, () -> w.flash(0, 21, 10, 1, 0));
        Check.thrown("12: z above", ARGUMENT, () -> w.flash(0, 0, 64, 1, 0));
        Check.thrown("12: z below", ARGUMENT, () -> w.flash(0, 0, -1, 1, 0));
        Check.thrown("12: strength below", ARGUMENT, () -> w.flash(0, 0, 10, 0, 0));
        Check.thrown("12: strength above", ARGUMENT, () -> w.flash(0, 0, 10, 100001, 0));
        Check.thrown("12: tick below", ARGUMENT, () -> w.flash(0, 0, 10, 1, -1));
        Check.thrown("12: tick above", ARGUMENT, () -> w.flash(0, 0, 10, 1, 100000));
        Check.same("12: nothing came of these", w.pulses(), 0);
    }

    private static void flashWhenFull() {
        DeepiceWatch w = withEye(10);
        for (int i = 1; i < 24; i++) {
            w.addEye(0, 10);
        }
        for (int i = 0; i < 8; i++) {
            Check.same("12: room for 24", w.flash(0, 0, 10, 1, i), 24);
        }
        Check.same("12: room for 8", w.flash(0, 0, 10, 1, 8), 8);
        Check.same("12: 200 are kept", w.pulses(), 200);
        Check.same("12: the first eyes have them", w.pulseAt(199, 'e'), 7);
        Check.same("12: the rest is lost", w.flash(0, 0, 10, 1, 0), 0);
        Check.same("13: a passer's, too", w.pass(0, 0, 10, DOWN, 1, 1, 0), 0);
        Check.same("14: noise, too", w.noise(30), 0);
        w.wipe();
        Check.same("12: there is room again", w.flash(0, 0, 10, 1, 0), 24);
    }

    private static void pass() {
        DeepiceWatch w = withEye(10);
        Check.same("13: one pulse", w.pass(0, 0, 13, DOWN, 1, 1, 100), 1);
        Check.same("13: 85 and 46", w.pulseAt(0, 'q'), 131);
        Check.same("13: the first comes first, 100 and 30", w.pulseAt(0, 't'), 130);
        w.wipe();
        w.pass(0, 0, 16, UP, 1, 1, 100);
        Check.same("13: 17 and 28", w.pulseAt(0, 'q'), 45);
        Check.same("13: 163 and 105 + 52", w.pulseAt(0, 't'), 157);
        w.wipe();
        w.pass(0, 0, 13, DOWN, 2, 1, 100);
        Check.same("13: 85 and 46 and 28", w.pulseAt(0, 'q'), 159);
        w.wipe();
        w.pass(0, 0, 11, UP, 40, 1, 100);
        Check.same("13: 255 at most", w.pulseAt(0, 'q'), 255);
        w.wipe();
        Check.same("13: too far away", w.pass(0, 0, 21, DOWN, 40, 1, 100), 0);
        w.setLayer(0, 10, 20);
        w.setLayer(15, 10, 0);
        Check.same("13: 0 from 19, 9 from 20", w.pass(0, 0, 19, DOWN, 1, 1, 100), 1);
        Check.same("13: the charge", w.pulseAt(0, 'q'), 9);
        Check.same("13: what has no charge does not come", w.pulseAt(0, 't'), 215);
        w.wipe();
        w.setLayer(0, 0, 20);
        w.setLayer(15, 99, 0);
        w.pass(0, 0, 20, UP, 1, 1, 100);
        Check.same("13: 9 from 20, 0 from 19", w.pulseAt(0, 'q'), 9);
        Check.same("13: nor does what would be earlier", w.pulseAt(0, 't'), 299);
        w.setEye(0, 'd');
        Check.same("13: none of a dead eye", w.pass(0, 0, 10, DOWN, 1, 1, 0), 0);
        w.setEye(0, 'l');
        w.addEye(0, 12);
        Check.same("13: one each", w.pass(0, 0, 10, DOWN, 40, 100000, 99999), 2);
    }

    /** From 5 away: 28 there, then 46 from 4 or 17 from 6 away. */
    private static void passAxes() {
        int[][] starts = {{-5, 0, 10}, {5, 0, 10}, {0, -5, 10}, {0, 5, 10}, {0, 0, 5}, {0, 0, 15}};
        int[] nearer = {87, 37, 67, 57, DOWN, UP};
        int[] farther = {37, 87, 57, 67, UP, DOWN};
        for (int i = 0; i < 6; i++) {
            DeepiceWatch w = withEye(10);
            w.pass(starts[i][0], starts[i][1], starts[i][2], nearer[i], 1, 1, 0);
            Check.same("13: nearer " + i, w.pulseAt(0, 'q'), 74);
            w.wipe();
            w.pass(starts[i][0], starts[i][1], starts[i][2], farther[i], 1, 1, 0);
            Check.same("13: farther " + i, w.pulseAt(0, 'q'), 45);
        }
        DeepiceWatch w = withEye(10);
        w.pass(-9, 0, 10, 112, 2, 1, 0);
        Check.same("13: 2 in x, 3 from 9, 13 from 7, 28 from 5", w.pulseAt(0, 'q'), 44);
        w.wipe();
        w.pass(2, 2, 12, 0, 1, 1, 1000);
        Check.same("13: -2 in each", w.pulseAt(0, 't'), 1005);
        w.wipe();
        w.pass(-2, -2, 8, 124, 1, 1, 1000);
        Check.same("13: 2 in each", w.pulseAt(0, 't'), 1005);
    }

    /** Depths -1 and -2: half of -1 is cut to 0, where the layer is; half of -2 is above it. */
    private static void passOutOfTheField() {
        DeepiceWatch w = withEye(0);
        w.setLayer(0, 10, 20);
        w.pass(3, 0, 0, UP, 1, 1, 0);
        Check.same("13: 51 and 45", w.pulseAt(0, 'q'), 96);
        w.wipe();
        w.pass(3, 0, 0, UP, 2, 1, 0);
        Check.same("13: 51 and 45 and 59", w.pulseAt(0, 'q'), 155);
        Check.same("13: far out", w.pass(20, 20, 63, 124, 40, 100000, 0), 0);
        Check.same("13: far out and bright", w.pass(-20, -20, 0, 0, 40, 100000, 0), 1);
    }

    private static void passRanges() {
        DeepiceWatch w = withEye(10);
        Check.thrown("13: x", ARGUMENT, () -> w.pass(21, 0, 10, DOWN, 1, 1, 0));
        Check.thrown("13: y", ARGUMENT, () -> w.pass(0, -21, 10, DOWN, 1, 1, 0));
        Check.thrown("13: z above", ARGUMENT, () -> w.pass(0, 0, 64, DOWN, 1, 1, 0));
        Check.thrown("13: z below", ARGUMENT, () -> w.pass(0, 0, -1, DOWN, 1, 1, 0));
        Check.thrown("13: no step", ARGUMENT, () -> w.pass(0, 0, 10, 62, 1, 1, 0));
        Check.thrown("13: step below", ARGUMENT, () -> w.pass(0, 0, 10, -1, 1, 1, 0));
        Check.thrown("13: step above", ARGUMENT, () -> w.pass(0, 0, 10, 125, 1, 1, 0));
        Check.thrown("13: steps below", ARGUMENT, () -> w.pass(0, 0, 10, DOWN, 0, 1, 0));
        Check.thrown("13: steps above", ARGUMENT, () -> w.pass(0, 0, 10, DOWN, 41, 1, 0));
        Check.thrown("13: strength below", ARGUMENT, () -> w.pass(0, 0, 10, DOWN, 1, 0, 0));
        Check.thrown("13: strength above", ARGUMENT, () -> w.pass(0, 0, 10, DOWN, 1, 100001, 0));
        Check.thrown("13: tick below", ARGUMENT, () -> w.pass(0, 0, 10, DOWN, 1, 1, -1));
        Check.thrown("13: tick above", ARGUMENT, () -> w.pass(0, 0, 10, DOWN, 1, 1, 100000));
        Check.same("13: nothing came of these", w.pulses(), 0);
    }

    /** From 1, z becomes 48271, 182605794, 1291394886, 1914720637. */
    private static void noise() {
        DeepiceWatch w = withEye(10);
        w.addEye(0, 20);
        Check.same("14: two", w.noise(2), 2);
        Check.same("14: z went on", w.seed(1), 1914720637);
        Check.same("14: 48271 is odd", w.pulseAt(0, 'e'), 1);
        Check.same("14: 182605794", w.pulseAt(0, 't'), 5794);
        Check.same("14: charge", w.pulseAt(0, 'q'), 1);
        Check.same("14: 1291394886 is even", w.pulseAt(1, 'e'), 0);
        Check.same("14: 1914720637", w.pulseAt(1, 't'), 20637);
        w.wipe();
        w.setClock(1, 100, 1000);
        w.noise(1);
        Check.same("14: an own tick, 5794 + 100 + 5", w.pulseAt(0, 'o'), 5899);
        Check.same("14: the most", w.noise(30), 30);
        Check.thrown("14: none", ARGUMENT, () -> w.noise(0));
        Check.thrown("14: too many", ARGUMENT, () -> w.noise(31));
        DeepiceWatch none = new DeepiceWatch();
        Check.thrown("14: no eyes", STATE, () -> none.noise(1));
        Check.thrown("14: range is told first", ARGUMENT, () -> none.noise(0));
        Check.same("14: z stays where it throws", none.seed(1), 1);
    }

    private static void noiseOfDeadEyes() {
        DeepiceWatch w = withEye(10);
        w.addEye(0, 20);
        w.setEye(1, 'd');
        Check.same("14: of a dead eye none", w.noise(2), 1);
        Check.same("14: but its lot was drawn", w.pulseAt(0, 't'), 20637);
        w.setEye(0, 'd');
        Check.same("14: all dead", w.noise(3), 0);
        w.setEye(0, 'l');
        w.setEye(1, 'l');
        Check.same("14: loud ones have noise", w.noise(3), 3);
    }

    private static void seed() {
        DeepiceWatch w = withEye(10);
        Check.same("15: 1 at first", w.seed(2147483646), 1);
        Check.same("15: the most", w.seed(1), 2147483646);
        Check.thrown("15: 0", ARGUMENT, () -> w.seed(0));
        Check.thrown("15: above", ARGUMENT, () -> w.seed(2147483647));
        Check.thrown("15: below", ARGUMENT, () -> w.seed(-1));
        Check.same("15: it stayed", w.seed(7), 1);
        w.noise(1);
        Check.same("15: 7 twice further", w.seed(1), 7L * 48271 % 2147483647 * 48271 % 2147483647);
    }
}
