/** Promises 16 to 21: clocks, calls, mended ticks, pulses in order. */
public final class ClockTest {
    private static final Class<IllegalArgumentException> ARGUMENT = IllegalArgumentException.class;
    private static final Class<IndexOutOfBoundsException> INDEX = IndexOutOfBoundsException.class;
    private static final Class<UnsupportedOperationException> UNSUPPORTED = UnsupportedOperationException.class;

    public static void main(String[] args) {
        setClock();
        call();
        mended();
        mendedByTwo();
        pulsesAndWipe();
        pulseAt();
        pulsesInOrder();
        pulsesThatComeTogether();
        mendedPulses();
        Check.end();
    }

    private static DeepiceWatch withEyes(int... depths) {
        DeepiceWatch w = new DeepiceWatch();
        w.addString(0, 0);
        for (int z : depths) {
            w.addEye(0, z);
        }
        return w;
    }

    private static void setClock() {
        DeepiceWatch w = withEyes(10, 30);
        Check.same("16: 0 at first", w.setClock(0, 9999, -9999), 0);
        Check.same("16: the one before", w.setClock(0, -9999, 9999), 9999);
        Check.same("16: the other eye's", w.setClock(1, 5, 0), 0);
        Check.thrown("16: offset above", ARGUMENT, () -> w.setClock(0, 10000, 0));
        Check.thrown("16: offset below", ARGUMENT, () -> w.setClock(0, -10000, 0));
        Check.thrown("16: drift above", ARGUMENT, () -> w.setClock(0, 0, 10000));
        Check.thrown("16: drift below", ARGUMENT, () -> w.setClock(0, 0, -10000));
        Check.thrown("16: no eye", INDEX, () -> w.setClock(2, 0, 0));
        Check.thrown("16: index is told first", INDEX, () -> w.setClock(-1, 10000, 0));
        Check.same("16: it stayed", w.setClock(0, 0, 0), -9999);
        w.call(0, 500);
        w.call(1, 500);
        w.setClock(0, 20, 0);
        Check.same("16: no call is kept", w.mended(0, 100), 100);
        Check.same("16: the other eye's is", w.mended(1, 105), 100);
        Check.same("16: so an early call is fine", w.call(0, 0), 20);
    }

    private static void call() {
        DeepiceWatch w = withEyes(5, 30);
        w.setClock(0, 10, 0);
        Check.same("17: the document's example", w.call(0, 1000), 1010);
        Check.thrown("17: the same tick again", UNSUPPORTED, () -> w.call(0, 1000));
        Check.thrown("17: an earlier one", UNSUPPORTED, () -> w.call(0, 999));
        Check.thrown("17: range before that", ARGUMENT, () -> w.call(0, -1));
        Check.same("17: a later one", w.call(0, 1001), 1011);
        Check.thrown("17: the last one counts", UNSUPPORTED, () -> w.call(0, 1001));
        Check.same("17: the other eye", w.call(1, 5), 5);
        Check.thrown("17: no eye", INDEX, () -> w.call(2, -1));
        Check.thrown("17: no eye below", INDEX, () -> w.call(-1, 0));
        Check.thrown("17: tick above", ARGUMENT, () -> w.call(1, 1000000));
        w.setClock(0, -5, 9999);
        Check.same("17: at 0", w.call(0, 0), -5);
        Check.same("17: 999999 - 5 and 9998.99", w.call(0, 999999), 1009992);
        w.setClock(0, 0, -9999);
        Check.same("17: less 9998.99, cut toward 0", w.call(0, 999999), 990001);
        w.setClock(0, 0, -1);
        Check.same("17: less 0.99, cut toward 0", w.call(0, 999999), 999999);
        w.setEye(0, 'd');
        w.setClock(0, 1, 0);
        Check.same("17: a dead eye can be called", w.call(0, 7), 8);
    }

    private static void mended() {
        DeepiceWatch w = withEyes(5);
        Check.same("18: without a call the own one", w.mended(0, -77), -77);
        w.setClock(0, 10, 0);
        Check.same("18: a clock alone mends nothing", w.mended(0, 1510), 1510);
        w.call(0, 1000);
        Check.same("18: the document's example", w.mended(0, 1510), 1500);
        Check.same("18: any number", w.mended(0, Integer.MIN_VALUE), -2147483658L);
        Check.same("18: any number", w.mended(0, Integer.MAX_VALUE), 2147483637);
        Check.thrown("18: no eye", INDEX, () -> w.mended(1, 0));
        Check.thrown("18: no eye below", INDEX, () -> w.mended(-1, 0));
    }

    private static void mendedByTwo() {
        DeepiceWatch w = withEyes(5);
        w.setClock(0, 100, 1000);
        Check.same("18: first", w.call(0, 1000), 1101);
        Check.same("18: second", w.call(0, 9000), 9109);
        Check.same("18: 4004 times 8000 / 8008", w.mended(0, 5105), 5000);
        Check.same("18: -1 times 8000 / 8008 is cut to 0", w.mended(0, 1100), 1000);
        Check.same("18: -101 times 8000 / 8008 is cut to -100", w.mended(0, 1000), 900);
        Check.same("18: any number", w.mended(0, Integer.MAX_VALUE), 1000 + (2147483647L - 1101) * 8000 / 8008);
        Check.same("18: a third", w.call(0, 9500), 9609);
        Check.same("18: the last two count", w.mended(0, 9110), 9001);
        Check.thrown("18: a call that throws", UNSUPPORTED, () -> w.call(0, 9500));
        Check.same("18: changes nothing", w.mended(0, 9110), 9001);
        w.setClock(0, 0, -9999);
        Check.same("18: own tick of 100", w.call(0, 100), 100);
        Check.same("18: own tick of 101", w.call(0, 101), 100);
        Check.same("18: like own ticks, so by the last call", w.mended(0, 150), 151);
    }

    private static void pulsesAndWipe() {
        DeepiceWatch w = withEyes(10, 30);
        Check.same("19: none", w.pulses(), 0);
        Check.same("21: none", w.wipe(), 0);
        w.flash(0, 0, 20, 1000, 0);
        w.flash(0, 0, 10, 1, 0);
        Check.same("19: three", w.pulses(), 3);
        Check.same("21: three", w.wipe(), 3);
        Check.same("21: none are left", w.pulses(), 0);
        Check.thrown("21: nor to be told", INDEX, () -> w.pulseAt(0, 'e'));
    }

    private static void pulseAt() {
        DeepiceWatch w = withEyes(10, 30);
        w.setClock(1, 50, 0);
        w.call(1, 0);
        w.flash(0, 0, 33, 1, 200);
        Check.same("20: eye", w.pulseAt(0, 'e'), 1);
        Check.same("20: own", w.pulseAt(0, 'o'), 280);
        Check.same("20: mended", w.pulseAt(0, 't'), 230);
        Check.same("20: charge", w.pulseAt(0, 'q'), 85);
        Check.thrown("20: no such thing", ARGUMENT, () -> w.pulseAt(0, 'x'));
        Check.thrown("20: no such pulse", INDEX, () -> w.pulseAt(1, 'e'));
        Check.thrown("20: below 0", INDEX, () -> w.pulseAt(-1, 'e'));
        Check.thrown("20: index is told first", INDEX, () -> w.pulseAt(1, 'x'));
    }

    private static void pulsesInOrder() {
        DeepiceWatch w = withEyes(10, 30);
        w.flash(0, 0, 30, 1, 500);
        w.flash(0, 0, 10, 1, 500);
        w.flash(0, 0, 10, 1, 400);
        w.flash(0, 0, 13, 1, 470);
        w.flash(0, 0, 10, 1, 500);
        Check.same("20: earliest", w.pulseAt(0, 't'), 400);
        Check.same("20: then by eyes", w.pulseAt(1, 'e'), 0);
        Check.same("20: then as they came, 1", w.pulseAt(1, 'q'), 255);
        Check.same("20: then as they came, 2", w.pulseAt(2, 'q'), 85);
        Check.same("20: then as they came, 3", w.pulseAt(3, 'q'), 255);
        Check.same("20: the other eye", w.pulseAt(4, 'e'), 1);
        Check.same("20: at the same tick", w.pulseAt(4, 't'), 500);
    }

    /** Own ticks of 113 and 112 are mended to 111 both, by 1000 / 1009. */
    private static void pulsesThatComeTogether() {
        DeepiceWatch w = withEyes(10);
        w.flash(0, 0, 10, 1, 113);
        w.flash(0, 0, 13, 1, 82);
        Check.same("20: apart, by own ticks", w.pulseAt(0, 'q'), 85);
        w.setClock(0, 0, 9999);
        w.call(0, 0);
        w.call(0, 1000);
        Check.same("20: one tick", w.pulseAt(0, 't'), 111);
        Check.same("20: the same tick", w.pulseAt(1, 't'), 111);
        Check.same("20: as they came", w.pulseAt(0, 'q'), 255);
        Check.same("20: as they came", w.pulseAt(1, 'q'), 85);
    }

    private static void mendedPulses() {
        DeepiceWatch w = withEyes(10, 30);
        w.setClock(0, 1000, 0);
        w.flash(0, 0, 10, 1, 100);
        w.flash(0, 0, 30, 1, 200);
        Check.same("20: by own ticks, as no call is known", w.pulseAt(0, 'e'), 1);
        w.call(0, 0);
        Check.same("20: a later call mends what was kept", w.pulseAt(0, 'e'), 0);
        Check.same("20: its tick", w.pulseAt(0, 't'), 100);
        w.setClock(0, 0, 0);
        Check.same("20: and a clock set anew undoes it", w.pulseAt(1, 't'), 1100);
        Check.same("20: the own tick stays", w.pulseAt(1, 'o'), 1100);
    }
}
