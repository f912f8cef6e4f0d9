import java.math.BigInteger;

/** The sentences on clocks and the order of pulses that name a boundary case, each with a test of its own. */
public final class ClockEdgeTest {
    private static final Class<UnsupportedOperationException> UNSUPPORTED = UnsupportedOperationException.class;
    private static final Class<IndexOutOfBoundsException> INDEX = IndexOutOfBoundsException.class;

    public static void main(String[] args) {
        noClockAtFirst();
        ownTickIsCut();
        pulsesHaveTheOwnTick();
        lastTwoCalls();
        noneAsTheClockIsSet();
        twoCallsAreCut();
        slowClockIsCut();
        likeOwnTicks();
        oneCall();
        withoutCall();
        anyTick();
        orderByTicks();
        orderByEyes();
        orderAsTheyCame();
        noPulses();
        wipeNone();
        Sentences.end();
    }

    private static void noClockAtFirst() {
        Sentences.of("Terms", "An eye's own tick is the true one plus an offset, 0 at first");
        DeepiceWatch w = Watches.grid();
        Check.same("17: no offset", w.call(0, 0), 0);
        Check.same("17: no drift", w.call(0, 999999), 999999);
        Check.same("17: nor of the last eye", w.call(23, 999999), 999999);
        Check.same("16: 0 at first", w.setClock(0, 9999, 0), 0);
        Check.same("17: an offset", w.call(0, 0), 9999);
        Check.same("16: the greatest", w.setClock(0, -9999, 0), 9999);
        Check.same("17: below 0", w.call(0, 0), -9999);
        Check.same("16: the least", w.setClock(0, 0, 0), -9999);
        Check.same("16: of another eye, 0", w.setClock(1, 0, 0), 0);
    }

    /** By a drift of d millionths 500000 ticks are d / 2 more. */
    private static void ownTickIsCut() {
        Sentences.of("Terms", "the true one times a drift, in millionths, 0 at first, divided by 1000000, cut toward 0");
        int[] drifts = {1, -1, 2, -2, 3, -3, 9999, -9999};
        int[] at500000 = {0, 0, 1, -1, 1, -1, 4999, -4999};
        int[] at999999 = {0, 0, 1, -1, 2, -2, 9998, -9998};
        DeepiceWatch w = Watches.eyeAt(0, 0, 30);
        for (int i = 0; i < drifts.length; i++) {
            w.setClock(0, 0, drifts[i]);
            Check.same("17: 0, drift " + drifts[i], w.call(0, 0), 0);
            Check.same("17: 500000, drift " + drifts[i], w.call(0, 500000), 500000 + at500000[i]);
            Check.same("17: 999999, drift " + drifts[i], w.call(0, 999999), 999999 + at999999[i]);
        }
        w.setClock(0, 0, 10);
        Check.same("17: 0.99999", w.call(0, 99999), 99999);
        Check.same("17: 1", w.call(0, 100000), 100001);
        w.setClock(0, 0, -10);
        Check.same("17: -0.99999", w.call(0, 99999), 99999);
        Check.same("17: -1", w.call(0, 100000), 99999);
        w.setClock(0, 5, -10);
        Check.same("17: the drift alone is cut, not with the offset", w.call(0, 99999), 100004);
        w.setClock(0, -5, 10);
        Check.same("17: the drift alone is cut, not with the offset", w.call(0, 99999), 99994);
    }

    private static void pulsesHaveTheOwnTick() {
        Sentences.of("Terms", "A pulse has the own tick.");
        DeepiceWatch w = Watches.eyeAt(0, 0, 30);
        w.setClock(0, 9999, 9999);
        w.flash(0, 0, 30, 1, 99999);
        Check.same("20: 99999, 9999 and 999.89", w.pulseAt(0, 'o'), 110997);
        w.wipe();
        w.setClock(0, -9999, -9999);
        w.flash(0, 0, 30, 1, 99999);
        Check.same("20: 99999, -9999 and -999.89", w.pulseAt(0, 'o'), 89001);
        w.wipe();
        w.flash(0, 0, 30, 1, 0);
        Check.same("20: below 0", w.pulseAt(0, 'o'), -9999);
        w.setClock(0, 0, 0);
        Check.same("20: a clock set later does not change it", w.pulseAt(0, 'o'), -9999);
        w.wipe();
        w.setClock(0, 0, -9999);
        w.flash(0, 0, 30, 1, 100);
        Check.same("20: -0.9999", w.pulseAt(0, 'o'), 100);
        w.wipe();
        w.flash(0, 0, 30, 1, 101);
        Check.same("20: -1.0098", w.pulseAt(0, 'o'), 100);
    }

    /** The own ticks of 0, 50, 200 and 201 are 500, 550, 701 and 703. */
    private static void lastTwoCalls() {
        Sentences.of("Terms", "An eye can be called, by which a true tick and the own one are known; the last two calls"
                + " are kept");
        DeepiceWatch w = Watches.eyeAt(0, 0, 30);
        w.setClock(0, 500, 9999);
        Check.same("18: none", w.mended(0, 2000), 2000);
        w.call(0, 0);
        Check.same("18: one: 1500 behind 0", w.mended(0, 2000), 1500);
        w.call(0, 50);
        Check.same("18: two, 0 and 50 as 500 and 550", w.mended(0, 2000), 1500);
        w.call(0, 200);
        Check.same("18: the last two, 50 and 200 as 550 and 701", w.mended(0, 2000), 50 + 1450 * 150 / 151);
        w.call(0, 201);
        Check.same("18: the last two, 200 and 201 as 701 and 703", w.mended(0, 2000), 200 + 1299 / 2);
        Check.thrown("18: a call that is refused is not kept", UNSUPPORTED, () -> w.call(0, 201));
        Check.same("18: so these stay", w.mended(0, 2000), 200 + 1299 / 2);
        Check.same("17: of another eye none", w.addEye(0, 0), 1);
        Check.same("18: of another eye none", w.mended(1, 2000), 2000);
    }

    private static void noneAsTheClockIsSet() {
        Sentences.of("Terms", "the last two calls are kept, none as a clock is set");
        DeepiceWatch w = Watches.grid();
        w.setClock(0, 100, 0);
        w.call(0, 1000);
        w.call(1, 5);
        Check.same("18: mended", w.mended(0, 1100), 1000);
        w.setClock(0, 100, 0);
        Check.same("18: none, though it is set as it was", w.mended(0, 1100), 1100);
        Check.same("17: so any tick is fine", w.call(0, 0), 100);
        Check.same("18: one alone", w.mended(0, 1100), 1000);
        Check.thrown("17: the other eye's call is kept", UNSUPPORTED, () -> w.call(1, 5));
        w.call(0, 10);
        w.setClock(0, 0, 9999);
        w.call(0, 2000);
        Check.same("18: of three, one since then: 3000 - 2019", w.mended(0, 3000), 2981);
    }

    /** The own ticks 1101 and 9109 are 1000 and 9000: each one more is 8000 / 8008 more, 0.999. */
    private static void twoCallsAreCut() {
        Sentences.of("Terms", "The mended tick of an own one is, with two calls of unlike own ticks, the true one of the"
                + " first plus the difference from its own one times that of both true ones, divided by that of both own"
                + " ones, cut toward 0");
        DeepiceWatch w = Watches.eyeAt(0, 0, 30);
        w.setClock(0, 100, 1000);
        Check.same("17: the first", w.call(0, 1000), 1101);
        Check.same("17: the second", w.call(0, 9000), 9109);
        Check.same("18: at the first", w.mended(0, 1101), 1000);
        Check.same("18: at the second", w.mended(0, 9109), 9000);
        Check.same("18: 0.999", w.mended(0, 1102), 1000);
        Check.same("18: 1.998", w.mended(0, 1103), 1001);
        Check.same("18: 1000 by 1001", w.mended(0, 2102), 2000);
        Check.same("18: -0.999", w.mended(0, 1100), 1000);
        Check.same("18: -1.998", w.mended(0, 1099), 999);
        Check.same("18: -1000 by -1001", w.mended(0, 100), 0);
        Check.same("18: -1000.999", w.mended(0, 99), 0);
        Check.same("18: -1001.998", w.mended(0, 98), -1);
    }

    /** The own ticks 0 and 9901 are 0 and 10000: 100 are 100.9999. */
    private static void slowClockIsCut() {
        Sentences.of("Terms", "divided by that of both own ones, cut toward 0");
        DeepiceWatch w = Watches.eyeAt(0, 0, 30);
        w.setClock(0, 0, -9999);
        Check.same("17: the first", w.call(0, 0), 0);
        Check.same("17: the second, -99.99", w.call(0, 10000), 9901);
        Check.same("18: 0", w.mended(0, 0), 0);
        Check.same("18: 1.01", w.mended(0, 1), 1);
        Check.same("18: 100.9999", w.mended(0, 100), 100);
        Check.same("18: 102.01", w.mended(0, 101), 102);
        Check.same("18: -1.01", w.mended(0, -1), -1);
        Check.same("18: -100.9999", w.mended(0, -100), -100);
        Check.same("18: -102.01", w.mended(0, -101), -102);
    }

    /** By -9999 millionths 100 is 100 still, and 101 is 100, too; 102 is 101. */
    private static void likeOwnTicks() {
        Sentences.of("Terms", "otherwise the difference from the own tick of the last call is added to its true one");
        DeepiceWatch w = Watches.eyeAt(0, 0, 30);
        w.setClock(0, 0, -9999);
        Check.same("17: the first", w.call(0, 100), 100);
        Check.same("17: the second is alike", w.call(0, 101), 100);
        Check.same("18: there", w.mended(0, 100), 101);
        Check.same("18: before", w.mended(0, 99), 100);
        Check.same("18: behind", w.mended(0, 201), 202);
        Check.same("18: far below 0", w.mended(0, -1000), -999);
        Check.same("17: a third is 1 more", w.call(0, 102), 101);
        Check.same("18: so 1 of 1 is added to the second", w.mended(0, 201), 202);
        Check.same("18: as below it", w.mended(0, 99), 100);
    }

    private static void oneCall() {
        Sentences.of("Terms", "is added to its true one");
        DeepiceWatch w = Watches.eyeAt(0, 0, 30);
        w.setClock(0, 10, 9999);
        Check.same("17: the only one", w.call(0, 1000), 1019);
        Check.same("18: there", w.mended(0, 1019), 1000);
        Check.same("18: 1 behind", w.mended(0, 1020), 1001);
        Check.same("18: 1 before", w.mended(0, 1018), 999);
        Check.same("18: 0", w.mended(0, 0), -19);
        Check.same("18: as many as differ, whatever the drift", w.mended(0, 501019), 501000);
    }

    private static void withoutCall() {
        Sentences.of("Terms", "without a call it is the own one");
        DeepiceWatch w = Watches.eyeAt(0, 0, 30);
        w.setClock(0, 9999, 9999);
        for (int tick : new int[] {0, 1, -1, 99999, Integer.MAX_VALUE, Integer.MIN_VALUE}) {
            Check.same("18: the own one", w.mended(0, tick), tick);
        }
        w.flash(0, 0, 30, 1, 0);
        Check.same("20: also of a pulse", w.pulseAt(0, 't'), 9999);
    }

    private static void anyTick() {
        Sentences.of("Promise 18", "`tick`: its own one, any number");
        DeepiceWatch w = Watches.eyeAt(0, 0, 30);
        w.setClock(0, -9999, -9999);
        Check.same("17: the first", w.call(0, 0), -9999);
        Check.same("18: by one", w.mended(0, Integer.MAX_VALUE), 2147483647L + 9999);
        Check.same("18: by one", w.mended(0, Integer.MIN_VALUE), -2147483648L + 9999);
        Check.same("17: the second", w.call(0, 999999), 999999 - 9999 - 9998);
        for (int tick : new int[] {Integer.MIN_VALUE, -1, 0, 1, Integer.MAX_VALUE}) {
            BigInteger product = BigInteger.valueOf(tick + 9999L).multiply(BigInteger.valueOf(999999));
            Check.same("18: by two, " + tick, w.mended(0, tick), product.divide(BigInteger.valueOf(990001)).longValue());
        }
        w.setClock(0, 0, -9999);
        w.call(0, 100);
        w.call(0, 101);
        Check.same("18: by like ones", w.mended(0, Integer.MAX_VALUE), 2147483648L);
        Check.same("18: by like ones", w.mended(0, Integer.MIN_VALUE), -2147483647L);
    }

    private static void orderByTicks() {
        Sentences.of("Terms", "Pulses are in order by mended ticks");
        DeepiceWatch w = Watches.grid();
        w.setClock(2, -9999, 0);
        w.setClock(3, 9999, 0);
        w.call(3, 0);
        Watches.light(w, 0, 1);
        Watches.light(w, 1, 0);
        Watches.light(w, 2, 9997);
        Watches.light(w, 3, 2);
        int[] eyes = {2, 1, 0, 3};
        long[] ticks = {-2, 0, 1, 2};
        for (int i = 0; i < 4; i++) {
            Check.same("20: a tick apart, " + i, w.pulseAt(i, 'e'), eyes[i]);
            Check.same("20: its mended tick", w.pulseAt(i, 't'), ticks[i]);
        }
        Check.same("20: not by own ones", w.pulseAt(3, 'o'), 10001);
        w.setClock(1, 0, 0);
        w.call(1, 0);
        w.setClock(2, 0, 0);
        w.call(2, 10);
        Check.same("20: a call moves what was kept", w.pulseAt(0, 't'), -2);
        w.setClock(3, 0, 0);
        Check.same("20: a clock does, too", w.pulseAt(3, 't'), 10001);
    }

    private static void orderByEyes() {
        Sentences.of("Terms", "then by eyes");
        DeepiceWatch w = Watches.grid();
        for (int eye = 23; eye >= 0; eye--) {
            Watches.light(w, eye, 500);
        }
        for (int i = 0; i < 24; i++) {
            Check.same("20: at one tick", w.pulseAt(i, 'e'), i);
        }
        Watches.light(w, 23, 499);
        Check.same("20: a tick earlier is before all eyes", w.pulseAt(0, 'e'), 23);
        Watches.light(w, 0, 501);
        Check.same("20: a tick later is behind all eyes", w.pulseAt(25, 'e'), 0);
    }

    private static void orderAsTheyCame() {
        Sentences.of("Terms", "then as they came");
        DeepiceWatch w = Watches.grid();
        Watches.light(w, 5, 500);
        Watches.dim(w, 5, 500);
        Watches.light(w, 5, 500);
        Watches.dim(w, 5, 500);
        Watches.dim(w, 4, 500);
        Watches.light(w, 4, 500);
        int[] due = {85, 255, 255, 85, 255, 85};
        for (int i = 0; i < 6; i++) {
            Check.same("20: of one eye at one tick, " + i, w.pulseAt(i, 'q'), due[i]);
            Check.same("20: its eye", w.pulseAt(i, 'e'), i < 2 ? 4 : 5);
        }
        together();
    }

    /** The own ticks 113 and 112 are 111 both, by 1000 / 1009; and no more as the clock is set. */
    private static void together() {
        DeepiceWatch w = Watches.grid();
        Watches.light(w, 1, 113);
        Watches.dim(w, 1, 112);
        Check.same("20: by ticks", w.pulseAt(0, 'q'), 85);
        w.setClock(1, 0, 9999);
        w.call(1, 0);
        Check.same("20: still by ticks", w.pulseAt(0, 'q'), 85);
        Check.same("17: the second", w.call(1, 1000), 1009);
        Check.same("20: as they came", w.pulseAt(0, 'q'), 255);
        Check.same("20: at one tick", w.pulseAt(0, 't'), w.pulseAt(1, 't'));
        w.setClock(1, 0, 0);
        Check.same("20: by ticks again", w.pulseAt(0, 'q'), 85);
    }

    private static void noPulses() {
        Sentences.of("Promise 19", "Returns how many pulses are kept.");
        DeepiceWatch w = Watches.grid();
        Check.same("19: none", w.pulses(), 0);
        Watches.light(w, 0, 0);
        Check.same("19: one", w.pulses(), 1);
        Check.same("20: the only one", w.pulseAt(0, 'e'), 0);
        Check.thrown("20: no other one", INDEX, () -> w.pulseAt(1, 'e'));
        w.setEye(0, 'd');
        Check.same("19: it stays if its eye dies", w.pulses(), 1);
    }

    private static void wipeNone() {
        Sentences.of("Promise 21", "Takes all pulses away.");
        DeepiceWatch w = Watches.grid();
        Check.same("21: none", w.wipe(), 0);
        Watches.light(w, 0, 0);
        Check.same("21: one", w.wipe(), 1);
        Check.same("21: none any more", w.wipe(), 0);
        for (int i = 0; i < 7; i++) {
            w.noise(30);
        }
        Check.same("21: all 200", w.wipe(), 200);
        Check.same("19: none are left", w.pulses(), 0);
        Check.same("24: nor events", w.events(), 0);
    }
}
