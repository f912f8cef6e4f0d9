import java.math.BigInteger;

/** The sentences on days, figures and the calls of an object that name a boundary case, each with a test of its own. */
public final class DayEdgeTest {
    private static final Class<IllegalStateException> STATE = IllegalStateException.class;
    private static final Class<IndexOutOfBoundsException> INDEX = IndexOutOfBoundsException.class;

    public static void main(String[] args) {
        twelveEvents();
        iceOfThen();
        pulsesAreGone();
        claimsStay();
        sixDays();
        energiesDoneAgain();
        versionAlsoIfAlike();
        theRestStays();
        noEnergyWithoutPulses();
        noKindWithoutPulses();
        vetoedOrNot();
        redoneOthers();
        noDays();
        sumOfNothing();
        sumWrapsAround();
        shareOfLoudEyes();
        meanOfCharges();
        soundWhenFull();
        allCalls();
        Sentences.end();
    }

    private static DeepiceWatch grid() {
        DeepiceWatch w = Watches.grid();
        w.setTrigger(2, 100);
        return w;
    }

    /** Eyes 1 and 2 at one tick, twice 255 times 26 from the middle: 17 by 95, 13 if nothing is eaten, 40 by 80. */
    private static void event(DeepiceWatch w, int tick) {
        Watches.light(w, 1, tick);
        Watches.light(w, 2, tick);
    }

    private static void events(DeepiceWatch w, int many) {
        for (int i = 0; i < many; i++) {
            event(w, 1000 * i);
        }
    }

    private static void twelveEvents() {
        Sentences.of("Terms", "As a day is closed, its events, 12 at most, are kept");
        int[] many = {0, 1, 11, 12, 13, 40};
        DeepiceWatch w = grid();
        for (int day = 0; day < many.length; day++) {
            events(w, many[day]);
            int due = Math.min(12, many[day]);
            Check.same("24: events", w.events(), many[day]);
            Check.same("37: of " + many[day], w.closeDay(), due);
            int of = day;
            if (due > 0) {
                Check.same("39: the last one kept", w.keptAt(day, due - 1, 'f'), 1000 * (due - 1));
                Check.same("40: its kind", w.keptKind(day, due - 1), 'b');
            }
            Check.thrown("39: no more than that", INDEX, () -> w.keptAt(of, due, 'f'));
            Check.thrown("40: no more than that", INDEX, () -> w.keptKind(of, due));
        }
        Check.same("39: of each day the first", w.keptAt(5, 0, 'f'), 0);
    }

    private static void iceOfThen() {
        Sentences.of("Terms", "are kept with what their fits tell by the ice of then");
        int[] eaten = {5, 0, 20};
        long[] energies = {17, 13, 40};
        DeepiceWatch w = grid();
        for (int day = 0; day < 3; day++) {
            w.setLayer(0, 10, 5);
            event(w, 1000);
            w.setLayer(0, 10, eaten[day]);
            w.closeDay();
        }
        for (int day = 0; day < 3; day++) {
            Check.same("39: energy", w.keptAt(day, 0, 'e'), energies[day]);
            Check.same("39: version", w.keptAt(day, 0, 'i'), 2 * day + 2);
        }
    }

    private static void pulsesAreGone() {
        Sentences.of("Terms", "pulses are gone");
        DeepiceWatch w = grid();
        for (int i = 0; i < 7; i++) {
            w.noise(30);
        }
        Check.same("19: full", w.pulses(), 200);
        w.closeDay();
        Check.same("19: none", w.pulses(), 0);
        Check.same("24: no events", w.events(), 0);
        Check.same("21: none to wipe", w.wipe(), 0);
        Check.thrown("20: none", INDEX, () -> w.pulseAt(0, 'q'));
        Check.same("14: room again", w.noise(30), 30);
        Watches.light(w, 23, 0);
        w.closeDay();
        Check.same("19: also those of no event", w.pulses(), 0);
    }

    private static void claimsStay() {
        Sentences.of("Terms", "claims stay");
        DeepiceWatch w = Watches.cube();
        Watches.tracks(w, 7, 2, 0);
        w.claim(7);
        for (int day = 0; day < 6; day++) {
            w.closeDay();
            Check.same("34: behind each day", w.trialsOf(7), 1);
        }
        w.wipe();
        Check.same("36: so do trials", w.trials(), 1);
        Check.same("35: it is there", w.takeBack(7), true);
    }

    private static void sixDays() {
        Sentences.of("Terms", "At most 6 days are numbered from 0.");
        DeepiceWatch w = grid();
        for (int day = 0; day < 6; day++) {
            int of = day;
            Check.same("38: so many", w.days(), day);
            Check.thrown("39: not yet", INDEX, () -> w.keptAt(of, 0, 'f'));
            event(w, 1000 * day);
            Check.same("37: a day", w.closeDay(), 1);
            Check.same("39: its number", w.keptAt(day, 0, 'f'), 1000 * day);
        }
        event(w, 9000);
        Check.thrown("37: a seventh", STATE, () -> w.closeDay());
        Check.same("38: six", w.days(), 6);
        Check.same("19: the pulses stay", w.pulses(), 2);
        Check.thrown("39: no seventh", INDEX, () -> w.keptAt(6, 0, 'f'));
        Check.same("41: the first", w.redo(0), 0);
        Check.same("41: the last", w.redo(5), 0);
    }

    private static void energiesDoneAgain() {
        Sentences.of("Terms", "Done again, the energies of a day are found by the ice of now");
        DeepiceWatch w = grid();
        events(w, 2);
        w.closeDay();
        events(w, 1);
        w.closeDay();
        w.setLayer(0, 10, 20);
        Check.same("39: not yet", w.keptAt(0, 1, 'e'), 17);
        Check.same("41: both", w.redo(0), 2);
        Check.same("39: the first", w.keptAt(0, 0, 'e'), 40);
        Check.same("39: the last", w.keptAt(0, 1, 'e'), 40);
        Check.same("39: not those of the other day", w.keptAt(1, 0, 'e'), 17);
        w.setLayer(0, 10, 5);
        Check.same("41: back", w.redo(0), 2);
        Check.same("39: as it was", w.keptAt(0, 0, 'e'), 17);
    }

    private static void versionAlsoIfAlike() {
        Sentences.of("Terms", "whose version is theirs then, also if they are alike");
        DeepiceWatch w = grid();
        events(w, 2);
        w.closeDay();
        Check.same("39: no layer was told", w.keptAt(0, 0, 'i'), 0);
        w.setLayer(0, 10, 5);
        Check.same("39: not yet", w.keptAt(0, 0, 'i'), 0);
        Check.same("41: all are alike", w.redo(0), 0);
        Check.same("39: the ice of now", w.keptAt(0, 0, 'i'), 1);
        Check.same("39: of each one", w.keptAt(0, 1, 'i'), 1);
        w.setLayer(63, 99, 20);
        w.setLayer(63, 98, 20);
        Check.same("41: all are alike", w.redo(0), 0);
        Check.same("39: the ice of now", w.keptAt(0, 1, 'i'), 3);
    }

    private static void theRestStays() {
        Sentences.of("Terms", "the rest stays");
        DeepiceWatch w = Watches.cube();
        Watches.track(w, 6, 1000);
        w.flash(0, 0, 30, 1, 5000);
        w.flash(10, 10, 30, 1, 5000);
        w.flash(-10, -10, 30, 1, 5000);
        Check.same("37: a track and a ball", w.closeDay(), 2);
        w.setOuter(0, true);
        w.setOuter(1, true);
        w.setEye(0, 'd');
        w.setPartner(1, 1);
        w.setTrigger(9, 1);
        w.setLayer(0, 10, 20);
        w.setClock(0, 500, 500);
        w.call(0, 500);
        Check.same("41: both", w.redo(0), 2);
        Check.same("39: the first tick", w.keptAt(0, 0, 'f'), 1000);
        Check.same("39: the veto", w.keptAt(0, 0, 'v'), 0);
        Check.same("40: the kind", w.keptKind(0, 0), 't');
        Check.same("39: the first tick", w.keptAt(0, 1, 'f'), 5000);
        Check.same("39: the veto", w.keptAt(0, 1, 'v'), 0);
        Check.same("40: the kind", w.keptKind(0, 1), 'b');
        Check.same("38: the days", w.days(), 1);
    }

    private static void noEnergyWithoutPulses() {
        Sentences.of("Promise 39", "'e' its energy, 0 without pulses kept");
        DeepiceWatch w = grid();
        w.setPartner(9, 300);
        events(w, 2);
        w.setLayer(0, 10, 20);
        w.closeDay();
        Check.same("39: no energy", w.keptAt(0, 1, 'e'), 0);
        Check.same("39: its tick", w.keptAt(0, 1, 'f'), 1000);
        Check.same("39: its version", w.keptAt(0, 1, 'i'), 1);
        w.setPartner(20, 300);
        w.setLayer(0, 10, 0);
        Check.same("41: none is another one", w.redo(0), 0);
        Check.same("39: still no energy", w.keptAt(0, 1, 'e'), 0);
        DeepiceWatch small = Watches.two(0, 0, 0, 0);
        small.closeDay();
        Check.same("39: below a thousand it is 0 with pulses kept", small.keptAt(0, 0, 'e'), 0);
        Check.same("40: which have a kind", small.keptKind(0, 0), 'b');
    }

    private static void noKindWithoutPulses() {
        Sentences.of("Promise 40", "Returns 't', 'b', or '-' without pulses kept.");
        DeepiceWatch w = Watches.cube();
        Watches.track(w, 6, 1000);
        w.closeDay();
        Check.same("40: a track", w.keptKind(0, 0), 't');
        w.setPartner(1, 300);
        Watches.track(w, 6, 1000);
        w.closeDay();
        Check.same("40: without pulses kept", w.keptKind(1, 0), '-');
        w.setPartner(20, 300);
        w.redo(1);
        Check.same("40: they are not kept later", w.keptKind(1, 0), '-');
        for (int ticks = 200; ticks <= 201; ticks++) {
            DeepiceWatch two = Watches.two(0, 0, 10, ticks);
            two.closeDay();
            Check.same("40: of 5000 or 4975", two.keptKind(0, 0), ticks == 200 ? 't' : 'b');
        }
    }

    private static void vetoedOrNot() {
        Sentences.of("Promise 39", "'v' 1 if it was vetoed, else 0");
        int[] late = {18, 17};
        for (int i = 0; i < 2; i++) {
            DeepiceWatch w = Watches.slow(2, 1, late[i]);
            w.closeDay();
            Check.same("39: a speed of 1 on z, or 0", w.keptAt(0, 0, 'v'), 1 - i);
        }
        DeepiceWatch w = grid();
        w.setPartner(9, 300);
        events(w, 1);
        w.setOuter(0, true);
        w.closeDay();
        w.setOuter(0, false);
        Check.same("39: without pulses kept by its first pulse", w.keptAt(0, 0, 'v'), 1);
        events(w, 1);
        w.closeDay();
        Check.same("39: no outer string", w.keptAt(1, 0, 'v'), 0);
    }

    private static void redoneOthers() {
        Sentences.of("Promise 41", "Returns how many are other ones then.");
        DeepiceWatch w = grid();
        Check.same("37: no events", w.closeDay(), 0);
        Check.same("41: of none", w.redo(0), 0);
        events(w, 13);
        w.closeDay();
        Check.same("41: the same ice", w.redo(1), 0);
        w.setLayer(0, 10, 20);
        Check.same("41: all 12", w.redo(1), 12);
        Check.same("41: again", w.redo(1), 0);
        event(w, 0);
        Watches.light(w, 4, 1000);
        Watches.light(w, 5, 1000);
        w.closeDay();
        w.setLayer(31, 10, 5);
        Check.same("41: the deeper one of two", w.redo(2), 1);
        Check.same("41: none of the other day", w.redo(1), 0);
    }

    private static void noDays() {
        Sentences.of("Promise 38", "Returns how many days were closed.");
        DeepiceWatch w = new DeepiceWatch();
        Check.same("38: none", w.days(), 0);
        Check.same("37: a day of a new watch", w.closeDay(), 0);
        Check.same("38: one, though it is empty", w.days(), 1);
    }

    // ---- figures

    private static long due(DeepiceWatch w) {
        BigInteger sum = BigInteger.valueOf(7);
        BigInteger times = BigInteger.valueOf(31);
        int pulses = w.pulses();
        for (int i = 0; i < pulses; i++) {
            sum = sum.multiply(times).add(BigInteger.valueOf(w.pulseAt(i, 't')));
            sum = sum.multiply(times).add(BigInteger.valueOf(w.pulseAt(i, 'q')));
        }
        for (int part : new int[] {w.events(), w.trials(), w.days()}) {
            sum = sum.multiply(times).add(BigInteger.valueOf(part));
        }
        return sum.longValue();
    }

    private static void sumOfNothing() {
        Sentences.of("Promise 42", "Returns 7 at first");
        DeepiceWatch w = new DeepiceWatch();
        Check.same("42: thrice times 31", w.checksum(), 208537);
        w.vote(1, 0);
        w.look(0);
        Check.same("42: a trial", w.checksum(), 208537 + 31);
        w.closeDay();
        Check.same("42: a day", w.checksum(), 208537 + 31 + 1);
        w.addEye(w.addString(0, 0), 0);
        w.flash(0, 0, 0, 1, 0);
        Check.same("42: a pulse at 0", w.checksum(), 7L * 31 * 31 * 31 * 31 * 31 + 255 * 29791 + 31 + 1);
    }

    /** A tick of 75000 or more times 31 to the tenth, as four pulses make it, is above the greatest long. */
    private static void sumWrapsAround() {
        Sentences.of("Promise 42", "then for each pulse in order 31 times itself plus its mended tick, then 31 times"
                + " itself plus its charge");
        DeepiceWatch w = Watches.eyeAt(0, 0, 30);
        w.setClock(0, -9999, 0);
        for (int i = 1; i <= 20; i++) {
            w.flash(0, 0, 30, 1, 99999 - 5000 * (i - 1));
            if (i <= 6 || i == 20) {
                Check.same("42: of " + i, w.checksum(), due(w));
            }
            if (i == 3 || i == 4) {
                BigInteger part = BigInteger.valueOf(w.pulseAt(0, 't')).multiply(BigInteger.valueOf(31).pow(2 * i + 2));
                Check.same("42: three fit, four wrap around", part.bitLength() > 63, i == 4);
            }
        }
        Check.same("20: ticks below 0, too", w.pulseAt(0, 't'), -5000);
        w.setTrigger(2, 9999);
        w.addEye(0, 30);
        w.noise(20);
        Check.holds("24: with events", w.events() > 0);
        Check.same("42: of 40", w.checksum(), due(w));
        w.call(0, 5);
        Check.holds("20: mended ticks are not own ones", w.pulseAt(0, 't') != w.pulseAt(0, 'o'));
        Check.same("42: by mended ticks", w.checksum(), due(w));
    }

    private static void shareOfLoudEyes() {
        Sentences.of("Promise 43", "Returns their number divided by that of all, both converted to float.");
        DeepiceWatch w = new DeepiceWatch();
        w.addString(0, 0);
        for (int i = 0; i < 24; i++) {
            w.addEye(0, i);
            Check.same("43: none of " + (i + 1), w.loudShare(), 0);
        }
        for (int i = 0; i < 24; i++) {
            w.setEye(i, 'l');
            Check.same("43: " + (i + 1) + " of 24", w.loudShare(), (float) (i + 1) / 24f);
        }
        Check.same("43: all", w.loudShare(), 1);
        w.setEye(23, 'd');
        Check.same("43: 23 of 24, as a float", w.loudShare(), 0.9583333134651184);
    }

    private static void meanOfCharges() {
        Sentences.of("Promise 44", "Returns the sum divided by their number, both converted to double.");
        DeepiceWatch w = Watches.eyeAt(0, 0, 30);
        w.noise(1);
        Check.same("44: one of 1", w.meanCharge(), 1);
        w.flash(0, 0, 30, 1, 0);
        Check.same("44: 1 and 255", w.meanCharge(), 128);
        w.noise(1);
        Check.same("44: a third, as a double", w.meanCharge(), 257.0 / 3.0);
        for (int i = 0; i < 7; i++) {
            w.noise(30);
        }
        Check.same("44: 200 pulses", w.meanCharge(), 454.0 / 200.0);
    }

    private static void soundWhenFull() {
        Sentences.of("Promise 45", "Returns true if so.");
        Check.same("45: a new one", new DeepiceWatch().isSound(), true);
        Check.same("45: full of strings", Watches.fullOfStrings().isSound(), true);
        Check.same("45: full of eyes", Watches.fullOfEyes().isSound(), true);
        Check.same("45: full of layers", Watches.fullOfLayers().isSound(), true);
        Check.same("45: full of days", Watches.fullOfDays().isSound(), true);
        DeepiceWatch w = Watches.furnished();
        for (int i = 0; i < 7; i++) {
            w.noise(30);
        }
        Check.same("45: full of pulses", w.isSound(), true);
        for (int z : new int[] {1, 2147483646}) {
            w.seed(z);
            Check.same("45: the ends of z", w.isSound(), true);
        }
    }

    /** 512 calls, of which the last ones are answered as any. */
    private static void allCalls() {
        Sentences.of("What it is", "An object is used for at most 512 calls after it has been made");
        DeepiceWatch w = Watches.eyeAt(0, 0, 30);
        w.addEye(0, 40);
        w.vote(1, 0);
        w.setTrigger(2, 100);
        for (int call = 6; call <= 508; call++) {
            Check.same("32: no track", w.look(call % 8), 0);
        }
        Check.same("36: all but the first 5", w.trials(), 503);
        Check.same("12: the 510th call", w.flash(0, 0, 35, 1000, 0), 2);
        Check.same("24: the 511th", w.events(), 1);
        Check.same("20: the 512th", w.pulseAt(1, 'e'), 1);
    }
}
