import java.util.NoSuchElementException;

/** Promises 22 to 30: triggers, partners, events, fits, vetoes. */
public final class EventTest {
    private static final Class<IllegalArgumentException> ARGUMENT = IllegalArgumentException.class;
    private static final Class<IndexOutOfBoundsException> INDEX = IndexOutOfBoundsException.class;
    private static final Class<NoSuchElementException> NONE = NoSuchElementException.class;

    public static void main(String[] args) {
        setTrigger();
        setPartner();
        triggers();
        joins();
        goodEyes();
        mendedEvents();
        eventAt();
        partners();
        partnersAtFirst();
        places();
        placesBelowZero();
        speeds();
        speedsBelowZero();
        kinds();
        kindByAllAxes();
        energies();
        energyIsAThousandthCut();
        vetoes();
        Check.end();
    }

    /** Eyes so far apart (10) that light of strength 1 at one comes to no other. */
    private static DeepiceWatch withEyes() {
        DeepiceWatch w = new DeepiceWatch();
        w.addString(0, 0);
        for (int i = 0; i < 7; i++) {
            w.addEye(0, 10 * i);
        }
        return w;
    }

    /** A pulse of charge 255 at one of those eyes and of no other one. */
    private static void light(DeepiceWatch w, int eye, int tick) {
        Check.same("a pulse", w.flash(0, 0, 10 * eye, 1, tick), 1);
    }

    /** A pulse of charge 85, which comes 30 ticks after its light. */
    private static void dim(DeepiceWatch w, int eye, int tick) {
        Check.same("a pulse", w.flash(3, 0, 10 * eye, 1, tick - 30), 1);
    }

    private static void setTrigger() {
        DeepiceWatch w = withEyes();
        Check.same("22: 4 at first", w.setTrigger(2, 1), 4);
        Check.same("22: the one before", w.setTrigger(9, 9999), 2);
        Check.thrown("22: eyes below", ARGUMENT, () -> w.setTrigger(1, 1));
        Check.thrown("22: eyes above", ARGUMENT, () -> w.setTrigger(10, 1));
        Check.thrown("22: window below", ARGUMENT, () -> w.setTrigger(2, 0));
        Check.thrown("22: window above", ARGUMENT, () -> w.setTrigger(2, 10000));
        Check.same("22: it stayed", w.setTrigger(2, 100), 9);
        light(w, 0, 0);
        light(w, 1, 101);
        Check.same("22: too long", w.events(), 0);
        w.setTrigger(2, 101);
        Check.same("22: long enough", w.events(), 1);
        Check.thrown("22: throws", ARGUMENT, () -> w.setTrigger(2, 0));
        Check.same("22: and changes nothing", w.events(), 1);
        w.setTrigger(3, 101);
        Check.same("22: too few eyes", w.events(), 0);
    }

    private static void setPartner() {
        DeepiceWatch w = withEyes();
        Check.same("23: 20 at first", w.setPartner(1, 1), 20);
        Check.same("23: the one before", w.setPartner(99, 9999), 1);
        Check.thrown("23: reach below", ARGUMENT, () -> w.setPartner(0, 1));
        Check.thrown("23: reach above", ARGUMENT, () -> w.setPartner(100, 1));
        Check.thrown("23: ticks below", ARGUMENT, () -> w.setPartner(1, 0));
        Check.thrown("23: ticks above", ARGUMENT, () -> w.setPartner(1, 10000));
        Check.same("23: it stayed", w.setPartner(1, 1), 99);
    }

    private static void triggers() {
        DeepiceWatch w = withEyes();
        Check.same("24: none", w.events(), 0);
        light(w, 0, 1000);
        light(w, 1, 1001);
        light(w, 2, 1500);
        Check.same("24: 3 eyes are too few", w.events(), 0);
        light(w, 0, 1200);
        Check.same("24: 4 pulses of 3 eyes, too", w.events(), 0);
        light(w, 3, 1501);
        Check.same("24: from the second one, the window's end included", w.events(), 1);
        Check.same("24: from that one on", w.eventAt(0, 'f'), 1001);
        Check.same("24: all up to the end are in it", w.eventAt(0, 'n'), 4);
        DeepiceWatch late = withEyes();
        light(late, 0, 1000);
        light(late, 1, 1000);
        light(late, 2, 1000);
        light(late, 3, 1501);
        Check.same("24: one tick too late", late.events(), 0);
        light(late, 4, 1500);
        Check.same("24: in time", late.events(), 1);
        Check.same("24: without the late one", late.eventAt(0, 'l'), 1500);
    }

    private static void joins() {
        DeepiceWatch w = withEyes();
        w.setTrigger(2, 100);
        light(w, 0, 0);
        light(w, 1, 100);
        light(w, 2, 200);
        light(w, 3, 300);
        Check.same("24: all share pulses with the next", w.events(), 1);
        Check.same("24: all are in it", w.eventAt(0, 'n'), 4);
        light(w, 5, 501);
        light(w, 4, 401);
        Check.same("24: none is shared", w.events(), 2);
        Check.same("24: by time, first", w.eventAt(0, 'f'), 0);
        Check.same("24: by time, its last", w.eventAt(0, 'l'), 300);
        Check.same("24: by time, second", w.eventAt(1, 'f'), 401);
        light(w, 0, 350);
        Check.same("24: joined by one that came later", w.events(), 1);
        Check.same("24: all seven", w.eventAt(0, 'n'), 7);
        w.wipe();
        Check.same("24: gone with the pulses", w.events(), 0);
        light(w, 0, 0);
        light(w, 0, 100);
        light(w, 1, 150);
        light(w, 1, 260);
        light(w, 0, 400);
        light(w, 1, 450);
        Check.same("24: one eye's pulses make no trigger", w.events(), 2);
        Check.same("24: what begins no trigger is not in it", w.eventAt(0, 'f'), 100);
        Check.same("24: nor what ends none", w.eventAt(0, 'l'), 150);
    }

    private static void goodEyes() {
        DeepiceWatch w = withEyes();
        w.setTrigger(3, 100);
        light(w, 0, 0);
        light(w, 1, 10);
        light(w, 2, 20);
        light(w, 3, 30);
        Check.same("24: all good", w.eventAt(0, 'n'), 4);
        w.setEye(1, 'l');
        Check.same("24: a loud eye is left out", w.eventAt(0, 'n'), 3);
        w.setEye(2, 'd');
        Check.same("24: so is a dead one", w.events(), 0);
        w.setEye(1, 'g');
        Check.same("24: a good one again is not", w.events(), 1);
        Check.same("19: their pulses stay", w.pulses(), 4);
    }

    private static void mendedEvents() {
        DeepiceWatch w = withEyes();
        w.setTrigger(2, 100);
        w.setClock(1, 5000, 0);
        light(w, 0, 0);
        light(w, 1, 10);
        Check.same("24: own ticks are far apart", w.events(), 0);
        w.call(1, 0);
        Check.same("24: mended ones are not", w.events(), 1);
        Check.same("25: a mended tick", w.eventAt(0, 'l'), 10);
    }

    private static void eventAt() {
        DeepiceWatch w = withEyes();
        w.setTrigger(2, 100);
        light(w, 1, 100);
        light(w, 2, 150);
        dim(w, 1, 190);
        light(w, 6, 200);
        Check.same("25: first", w.eventAt(0, 'f'), 100);
        Check.same("25: last", w.eventAt(0, 'l'), 200);
        Check.same("25: pulses", w.eventAt(0, 'n'), 4);
        Check.same("25: unlike eyes", w.eventAt(0, 'e'), 3);
        Check.same("25: charge, also of those not kept", w.eventAt(0, 'q'), 850);
        Check.same("25: kept, without the far eye", w.eventAt(0, 'k'), 3);
        Check.thrown("25: no such thing", ARGUMENT, () -> w.eventAt(0, 't'));
        Check.thrown("25: no such event", INDEX, () -> w.eventAt(1, 'f'));
        Check.thrown("25: below 0", INDEX, () -> w.eventAt(-1, 'f'));
        Check.thrown("25: index is told first", INDEX, () -> w.eventAt(1, 't'));
    }

    private static void partners() {
        DeepiceWatch w = withEyes();
        w.setTrigger(2, 1000);
        light(w, 0, 0);
        light(w, 2, 300);
        Check.same("25: 20 away and 300 apart", w.eventAt(0, 'k'), 2);
        w.setPartner(20, 299);
        Check.same("25: too late for it", w.eventAt(0, 'k'), 0);
        w.setPartner(19, 300);
        Check.same("25: too far for it", w.eventAt(0, 'k'), 0);
        w.setPartner(20, 300);
        light(w, 0, 601);
        Check.same("25: 301 apart, and an eye is no partner of its own", w.eventAt(0, 'k'), 2);
        light(w, 0, 600);
        Check.same("25: 300 after it", w.eventAt(0, 'k'), 3);
        light(w, 5, 100);
        Check.same("25: 30 away from all", w.eventAt(0, 'k'), 3);
        w.setPartner(30, 9999);
        Check.same("25: all", w.eventAt(0, 'k'), 5);
        DeepiceWatch two = withEyes();
        two.setTrigger(2, 100);
        light(two, 0, 0);
        light(two, 5, 50);
        light(two, 1, 160);
        light(two, 6, 200);
        Check.same("25: two events", two.events(), 2);
        Check.same("25: a partner is one of the same event", two.eventAt(0, 'k') + two.eventAt(1, 'k'), 0);
    }

    private static void partnersAtFirst() {
        DeepiceWatch w = withEyes();
        w.setTrigger(2, 1000);
        light(w, 0, 0);
        light(w, 2, 301);
        Check.same("25: 301 apart is too late", w.eventAt(0, 'k'), 0);
        light(w, 2, 300);
        Check.same("25: 300 apart is not", w.eventAt(0, 'k'), 2);
        DeepiceWatch far = new DeepiceWatch();
        far.addString(0, 0);
        far.addEye(0, 0);
        far.addEye(0, 21);
        far.setTrigger(2, 1000);
        light(far, 0, 0);
        far.flash(0, 0, 21, 1, 0);
        Check.same("25: 21 away is too far", far.eventAt(0, 'k'), 0);
        far.addString(6, 2);
        far.addEye(1, 20);
        far.wipe();
        far.setEye(1, 'd');
        light(far, 0, 0);
        Check.same("a pulse", far.flash(6, 2, 20, 1, 0), 1);
        Check.same("6: the root of 440 is cut", far.distance(0, 2), 20);
        Check.same("25: 20.97 away is not", far.eventAt(0, 'k'), 2);
    }

    private static void places() {
        DeepiceWatch w = withEyes();
        w.setTrigger(2, 200);
        dim(w, 1, 100);
        light(w, 2, 201);
        Check.same("26: 100 times (850 + 5100) / 340", w.placeOf(0, 'z'), 1750);
        Check.same("26: x", w.placeOf(0, 'x'), 0);
        Check.thrown("26: no such axis", ARGUMENT, () -> w.placeOf(0, 'w'));
        Check.thrown("26: no such event", INDEX, () -> w.placeOf(1, 'w'));
        Check.thrown("26: below 0", INDEX, () -> w.placeOf(-1, 'x'));
        light(w, 6, 150);
        Check.same("26: one not kept does not count", w.placeOf(0, 'z'), 1750);
        w.setPartner(9, 300);
        Check.thrown("26: none kept", NONE, () -> w.placeOf(0, 'z'));
        Check.thrown("26: axis before that", ARGUMENT, () -> w.placeOf(0, 'w'));
        Check.thrown("27: none kept", NONE, () -> w.speedOf(0, 'z'));
        Check.thrown("27: axis before that", ARGUMENT, () -> w.speedOf(0, 'w'));
        Check.thrown("27: event before that", INDEX, () -> w.speedOf(1, 'w'));
        Check.thrown("28: none kept", NONE, () -> w.kindOf(0));
        Check.thrown("28: no such event", INDEX, () -> w.kindOf(1));
        Check.thrown("28: below 0", INDEX, () -> w.kindOf(-1));
        Check.thrown("29: none kept", NONE, () -> w.energyOf(0));
        Check.thrown("29: no such event", INDEX, () -> w.energyOf(1));
        Check.thrown("29: below 0", INDEX, () -> w.energyOf(-1));
        DeepiceWatch ball = new DeepiceWatch();
        ball.addString(0, 0);
        ball.addEye(0, 10);
        ball.addEye(0, 12);
        ball.setTrigger(2, 100);
        ball.flash(0, 0, 11, 50, 0);
        Check.same("26: the document's example", ball.placeOf(0, 'z'), 1100);
        Check.same("28: the document's example", ball.kindOf(0), 'b');
    }

    /** Eye 0 at (-1, -2, 10) with 85, eyes 1 and 2 at (0, 0, 20) and (0, 0, 30) with 255: 595 in all. */
    private static void placesBelowZero() {
        DeepiceWatch w = new DeepiceWatch();
        w.addString(-1, -2);
        w.addString(0, 0);
        w.addEye(0, 10);
        w.addEye(1, 20);
        w.addEye(1, 30);
        w.setTrigger(2, 500);
        w.flash(-4, -2, 10, 1, 70);
        w.flash(0, 0, 20, 1, 100);
        w.flash(0, 0, 30, 1, 100);
        Check.same("26: charge", w.eventAt(0, 'q'), 595);
        Check.same("26: -8500 / 595 = -14.3", w.placeOf(0, 'x'), -14);
        Check.same("26: -17000 / 595 = -28.6", w.placeOf(0, 'y'), -28);
        Check.same("26: 1360000 / 595 = 2285.7", w.placeOf(0, 'z'), 2285);
        Check.same("27: all at one tick", w.speedOf(0, 'z'), 0);
        Check.same("28: a ball", w.kindOf(0), 'b');
    }

    private static void speeds() {
        DeepiceWatch w = withEyes();
        w.setTrigger(2, 200);
        dim(w, 1, 100);
        light(w, 2, 201);
        Check.same("27: 6438750000 / 650505", w.speedOf(0, 'z'), 9898);
        Check.same("27: nothing along x", w.speedOf(0, 'x'), 0);
        Check.same("27: nothing along y", w.speedOf(0, 'y'), 0);
        Check.thrown("27: no such axis", ARGUMENT, () -> w.speedOf(0, 'Z'));
        Check.thrown("27: no such event", INDEX, () -> w.speedOf(1, 'z'));
        Check.thrown("27: below 0", INDEX, () -> w.speedOf(-1, 'z'));
    }

    /** Own ticks of -9969 (charge 85) and -9968 (255): the mean one is -9968.25, cut to -9968. */
    private static void speedsBelowZero() {
        DeepiceWatch w = withEyes();
        w.setTrigger(2, 300);
        w.setClock(1, -9999, 0);
        w.setClock(2, -9968, 0);
        dim(w, 1, 30);
        light(w, 2, 0);
        Check.same("27: -9969", w.eventAt(0, 'f'), -9969);
        Check.same("27: -9968", w.eventAt(0, 'l'), -9968);
        Check.same("27: 1000 * 85 * 750 / 85", w.speedOf(0, 'z'), 750000);
        w.wipe();
        light(w, 2, 0);
        dim(w, 1, 301);
        Check.same("27: -9968 and -9698, the mean -9900.5", w.speedOf(0, 'z'), cutSpeed());
    }

    private static long cutSpeed() {
        long along = 255 * (-9968L + 9900) * (2000 - 1750) + 85 * (-9698L + 9900) * (1000 - 1750);
        long spread = 255 * 68L * 68 + 85 * 202L * 202;
        return 1000 * along / spread;
    }

    private static void kinds() {
        DeepiceWatch w = withEyes();
        w.setTrigger(3, 500);
        light(w, 1, 0);
        light(w, 2, 200);
        light(w, 3, 400);
        Check.same("27: 1000 in 200", w.speedOf(0, 'z'), 5000);
        Check.same("28: 25000000 are enough", w.kindOf(0), 't');
        w.wipe();
        light(w, 3, 0);
        light(w, 2, 200);
        light(w, 1, 400);
        Check.same("27: up", w.speedOf(0, 'z'), -5000);
        Check.same("28: up, too", w.kindOf(0), 't');
        w.wipe();
        light(w, 1, 0);
        light(w, 2, 201);
        light(w, 3, 402);
        Check.same("27: 1000 in 201", w.speedOf(0, 'z'), 4975);
        Check.same("28: too slow", w.kindOf(0), 'b');
    }

    /** Three eyes 600 apart on x and y and 1000 on z: 3000, 3000, 5000 in 200 ticks, 2857 and 4761 in 210. */
    private static void kindByAllAxes() {
        DeepiceWatch w = new DeepiceWatch();
        for (int i = 0; i < 3; i++) {
            w.addString(6 * i, -6 * i);
            w.addEye(i, 10 * i);
        }
        w.setTrigger(3, 500);
        for (int i = 0; i < 3; i++) {
            w.flash(6 * i, -6 * i, 10 * i, 1, 210 * i);
        }
        Check.same("27: x", w.speedOf(0, 'x'), 2857);
        Check.same("27: y", w.speedOf(0, 'y'), -2857);
        Check.same("27: z", w.speedOf(0, 'z'), 4761);
        Check.same("28: together they are enough", w.kindOf(0), 't');
    }

    private static void energies() {
        DeepiceWatch w = withEyes();
        w.setTrigger(3, 500);
        light(w, 1, 0);
        light(w, 2, 200);
        light(w, 3, 400);
        Check.same("29: 43007 + 255 + 43007", w.energyOf(0), 86);
        w.setLayer(0, 10, 0);
        Check.same("29: 255 times 101 + 1 + 101", w.energyOf(0), 51);
        w.setLayer(0, 10, 20);
        Check.same("29: 239847 + 255 + 239847", w.energyOf(0), 479);
        w.setLayer(0, 10, 5);
        w.setLayer(16, 10, 20);
        Check.same("29: half of 10 and 20 is above the layer", w.energyOf(0), 283);
        light(w, 6, 400);
        Check.same("29: one not kept does not count", w.energyOf(0), 283);
        DeepiceWatch cut = withEyes();
        cut.setTrigger(2, 500);
        dim(cut, 1, 100);
        light(cut, 2, 201);
        cut.setLayer(0, 10, 0);
        Check.same("29: from 17, not 17.5: 85 times 50 and 255 times 10", cut.energyOf(0), 6);
    }

    /** Two eyes at one place, so that the sum is that of charges: 999 first, then 1000. */
    private static void energyIsAThousandthCut() {
        DeepiceWatch w = new DeepiceWatch();
        w.addString(0, 0);
        w.addEye(0, 10);
        w.addEye(0, 10);
        w.setTrigger(2, 500);
        int[][] away = {{0, 0, 0, 2, 5, 7, 7}, {0, 0, 2, 2, 3, 5, 6}};
        for (int i = 0; i < 2; i++) {
            w.wipe();
            w.setEye(1, 'd');
            for (int z : away[i]) {
                w.setEye(0, w.pulses() == 6 ? 'd' : 'g');
                w.setEye(1, w.pulses() == 6 ? 'g' : 'd');
                Check.same("a pulse", w.flash(0, 0, 10 + z, 1, 1000), 1);
            }
            w.setEye(0, 'g');
            Check.same("25: all are kept", w.eventAt(0, 'k'), 7);
            Check.same("25: charge", w.eventAt(0, 'q'), 999 + i);
            Check.same("29: a thousandth, cut", w.energyOf(0), i);
        }
    }

    private static void vetoes() {
        DeepiceWatch w = withEyes();
        w.addString(9, 0);
        w.addEye(1, 15);
        w.setTrigger(2, 300);
        light(w, 2, 0);
        light(w, 1, 200);
        Check.same("28: a track", w.kindOf(0), 't');
        Check.same("30: up", w.isVetoed(0), false);
        w.setOuter(1, true);
        Check.same("30: another string", w.isVetoed(0), false);
        w.setOuter(0, true);
        Check.same("30: an outer one", w.isVetoed(0), true);
        w.setOuter(0, false);
        w.wipe();
        light(w, 1, 0);
        light(w, 2, 200);
        Check.same("30: down", w.isVetoed(0), true);
        w.wipe();
        light(w, 1, 0);
        light(w, 2, 300);
        Check.same("28: a slow one", w.kindOf(0), 'b');
        Check.same("30: a ball may go down", w.isVetoed(0), false);
        w.setPartner(5, 300);
        Check.same("30: without pulses kept", w.isVetoed(0), false);
        w.setOuter(0, true);
        Check.same("30: by its first pulse alone", w.isVetoed(0), true);
        Check.thrown("30: no such event", INDEX, () -> w.isVetoed(1));
        Check.thrown("30: below 0", INDEX, () -> w.isVetoed(-1));
        firstPulseNotKept();
        slowlyDown();
    }

    /** A fast track along x; the charge of 3 at (0, 0, 31), 25 ticks late, makes a speed of 1.47 down. */
    private static void slowlyDown() {
        DeepiceWatch w = new DeepiceWatch();
        for (int i = -1; i <= 1; i++) {
            w.addString(10 * i, 0);
            w.addEye(i + 1, 30);
        }
        w.addEye(1, 31);
        w.setTrigger(4, 300);
        w.flash(-10, 0, 30, 1, 1000);
        w.flash(10, 0, 30, 1, 1200);
        w.setEye(3, 'd');
        w.flash(0, 0, 30, 1, 1100);
        w.setEye(3, 'g');
        w.flash(0, 0, 40, 1, 1125 - 98);
        Check.same("27: x", w.speedOf(0, 'x'), 9996);
        Check.same("27: z", w.speedOf(0, 'z'), 1);
        Check.same("28: a track", w.kindOf(0), 't');
        Check.same("30: 1 is down", w.isVetoed(0), true);
        w.setTrigger(3, 300);
        w.setEye(3, 'l');
        Check.same("27: without that one", w.speedOf(0, 'z'), 0);
        Check.same("30: 0 is not down", w.isVetoed(0), false);
    }

    private static void firstPulseNotKept() {
        DeepiceWatch w = withEyes();
        w.addString(20, 20);
        w.addEye(1, 60);
        w.setOuter(1, true);
        w.setTrigger(2, 300);
        light(w, 2, 100);
        light(w, 1, 300);
        Check.same("30: not yet", w.isVetoed(0), false);
        w.flash(20, 20, 60, 1, 50);
        Check.same("30: the first is far from all", w.eventAt(0, 'k'), 2);
        Check.same("30: but is the first", w.isVetoed(0), true);
    }
}
