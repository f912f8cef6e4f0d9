/** Promises 42 to 45: the checksum, the shares, soundness. */
public final class FigureTest {
    private static final Class<ArithmeticException> ARITHMETIC = ArithmeticException.class;

    public static void main(String[] args) {
        checksum();
        loudShare();
        meanCharge();
        isSound();
        Check.end();
    }

    private static DeepiceWatch withEyes(int... depths) {
        DeepiceWatch w = new DeepiceWatch();
        w.addString(0, 0);
        for (int z : depths) {
            w.addEye(0, z);
        }
        return w;
    }

    private static long sum(long... parts) {
        long sum = 7;
        for (long part : parts) {
            sum = 31 * sum + part;
        }
        return sum;
    }

    private static void checksum() {
        DeepiceWatch w = withEyes(10, 20, 30);
        Check.same("42: 7 and three times 0", w.checksum(), 7L * 31 * 31 * 31);
        w.flash(0, 0, 20, 1, 500);
        w.flash(3, 0, 10, 1, 400);
        w.setClock(1, 0, 0);
        Check.same("42: in order", w.checksum(), sum(430, 85, 500, 255, 0, 0, 0));
        w.setTrigger(2, 100);
        Check.same("42: an event", w.checksum(), sum(430, 85, 500, 255, 1, 0, 0));
        w.vote(1, 0);
        w.look(0);
        w.look(0);
        Check.same("42: trials", w.checksum(), sum(430, 85, 500, 255, 1, 2, 0));
        w.setClock(0, 1000, 0);
        w.call(0, 0);
        Check.same("42: mended ticks", w.checksum(), sum(-570, 85, 500, 255, 0, 2, 0));
        w.closeDay();
        Check.same("42: a day", w.checksum(), sum(0, 2, 1));
        for (int i = 0; i < 6; i++) {
            w.noise(30);
        }
        long due = 7;
        int pulses = w.pulses();
        for (int i = 0; i < pulses; i++) {
            due = 31 * (31 * due + w.pulseAt(i, 't')) + w.pulseAt(i, 'q');
        }
        due = 31 * (31 * (31 * due + w.events()) + 2) + 1;
        Check.same("42: it wraps around", w.checksum(), due);
    }

    private static void loudShare() {
        DeepiceWatch w = new DeepiceWatch();
        Check.thrown("43: no eyes", ARITHMETIC, () -> w.loudShare());
        w.addString(0, 0);
        Check.thrown("43: a string is no eye", ARITHMETIC, () -> w.loudShare());
        w.addEye(0, 1);
        Check.same("43: none is loud", w.loudShare(), 0);
        w.setEye(0, 'd');
        Check.same("43: a dead one is not", w.loudShare(), 0);
        w.setEye(0, 'l');
        Check.same("43: all", w.loudShare(), 1);
        w.addEye(0, 2);
        w.addEye(0, 3);
        Check.same("43: a third, as a float", w.loudShare(), 1f / 3f);
        w.setEye(2, 'l');
        Check.same("43: two thirds, as a float", w.loudShare(), 2f / 3f);
    }

    private static void meanCharge() {
        DeepiceWatch w = withEyes(10, 30);
        Check.thrown("44: no pulses", ARITHMETIC, () -> w.meanCharge());
        w.flash(0, 0, 13, 1, 0);
        Check.same("44: one", w.meanCharge(), 85);
        w.flash(0, 0, 30, 1, 0);
        w.flash(0, 0, 10, 1, 0);
        Check.same("44: 595 of 3, as a double", w.meanCharge(), 595.0 / 3.0);
        w.setEye(1, 'l');
        Check.same("44: of loud eyes, too", w.meanCharge(), 595.0 / 3.0);
        w.wipe();
        Check.thrown("44: gone", ARITHMETIC, () -> w.meanCharge());
    }

    private static void isSound() {
        DeepiceWatch w = new DeepiceWatch();
        Check.same("45: at first", w.isSound(), true);
        for (int i = 0; i < 6; i++) {
            w.addString(i, i);
        }
        for (int i = 0; i < 24; i++) {
            w.addEye(i % 6, 2 * i);
        }
        w.seed(2147483646);
        for (int i = 0; i < 8; i++) {
            w.noise(30);
        }
        Check.same("45: full", w.isSound(), true);
        for (int i = 0; i < 6; i++) {
            w.closeDay();
        }
        w.vote(1, 0);
        w.claim(3);
        Check.same("45: at the end of the days", w.isSound(), true);
    }
}
