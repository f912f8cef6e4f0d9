import java.util.NoSuchElementException;

/** Each call that is refused for what the watch is or has: the exception is the one named, and nothing changes. */
public final class RefusalTest {
    private static final Class<IllegalArgumentException> ARGUMENT = IllegalArgumentException.class;
    private static final Class<IllegalStateException> STATE = IllegalStateException.class;
    private static final Class<IndexOutOfBoundsException> INDEX = IndexOutOfBoundsException.class;
    private static final Class<NoSuchElementException> NONE = NoSuchElementException.class;
    private static final Class<UnsupportedOperationException> UNSUPPORTED = UnsupportedOperationException.class;
    private static final Class<ArithmeticException> ARITHMETIC = ArithmeticException.class;
    private static final int EYES = 6;
    private static final int EVENTS = 6;

    private interface OnNumber {
        Object on(DeepiceWatch w, int number);
    }

    public static void main(String[] args) {
        addStringFull();
        setOuterNone();
        addEyeNone();
        addEyeFull();
        setEyeNone();
        distanceNone();
        setLayerFull();
        chargeAtNone();
        delayToNone();
        noiseNone();
        setClockNone();
        callNone();
        callNotAhead();
        mendedNone();
        pulseAtNone();
        eventAtNone();
        placeOfNone();
        placeOfNotKept();
        speedOfNone();
        speedOfNotKept();
        kindOfNone();
        kindOfNotKept();
        energyOfNone();
        energyOfNotKept();
        isVetoedNone();
        lookClosed();
        claimClosed();
        claimClaimed();
        trialsOfNotClaimed();
        closeDayFull();
        keptAtNone();
        keptKindNone();
        redoNone();
        loudShareNone();
        meanChargeNone();
        documentedFirst();
        changesNothing();
        Sentences.end();
    }

    private static void of(int promise, String thrown) {
        Sentences.of("Promise " + promise, "Throws " + thrown);
    }

    private static void refused(String what, Class<? extends RuntimeException> due, Twins.Call call) {
        Twins.refused(what, due, Watches::furnished, call);
    }

    /** The first and the last of so many are answered; one beyond either and far beyond are not, nor is one of none. */
    private static void index(String what, int many, OnNumber call) {
        Check.holds(what + " of the first", call.on(Watches.furnished(), 0) != null);
        Check.holds(what + " of the last", call.on(Watches.furnished(), many - 1) != null);
        for (int beyond : new int[] {-1, many, Integer.MIN_VALUE, Integer.MAX_VALUE}) {
            refused(what + " of " + beyond, INDEX, w -> call.on(w, beyond));
        }
        Twins.refused(what + " of none", INDEX, DeepiceWatch::new, w -> call.on(w, 0));
    }

    // ---- the field, the ice

    private static void addStringFull() {
        of(2, "`IllegalStateException` if there are 6");
        DeepiceWatch w = Watches.furnished();
        for (int i = 3; i < 6; i++) {
            Check.same("2: there are " + i, w.addString(0, 0), i);
        }
        Check.thrown("2: there are 6", STATE, () -> w.addString(0, 0));
        Twins.refused("2: full", STATE, Watches::fullOfStrings, full -> full.addString(1, 1));
    }

    private static void setOuterNone() {
        of(3, "`IndexOutOfBoundsException` if there is no such string");
        index("3: setOuter", 3, (w, string) -> w.setOuter(string, true));
        index("3: setOuter not", 3, (w, string) -> w.setOuter(string, false));
    }

    private static void addEyeNone() {
        of(4, "`IndexOutOfBoundsException` if there is no such string");
        index("4: addEye", 3, (w, string) -> w.addEye(string, 5));
        Twins.refused("4: a string that was refused", INDEX, Watches::fullOfStrings, w -> w.addEye(6, 5));
    }

    private static void addEyeFull() {
        of(4, "`IllegalStateException` if there are 24");
        DeepiceWatch w = Watches.furnished();
        for (int i = EYES; i < 24; i++) {
            Check.same("4: there are " + i, w.addEye(0, i), i);
        }
        Check.thrown("4: there are 24", STATE, () -> w.addEye(0, 1));
        Twins.refused("4: full", STATE, Watches::fullOfEyes, full -> full.addEye(2, 63));
    }

    private static void setEyeNone() {
        of(5, "`IndexOutOfBoundsException` if there is no such eye");
        index("5: setEye", EYES, (w, eye) -> w.setEye(eye, 'd'));
    }

    private static void distanceNone() {
        of(6, "`IndexOutOfBoundsException` if there is no such eye, for either");
        index("6: the first", EYES, (w, eye) -> w.distance(eye, 1));
        index("6: the second", EYES, (w, eye) -> w.distance(1, eye));
        index("6: both", EYES, (w, eye) -> w.distance(eye, eye));
    }

    private static void setLayerFull() {
        of(7, "`IllegalStateException` if there are 6 others");
        DeepiceWatch w = Watches.furnished();
        for (int i = 3; i <= 6; i++) {
            Check.same("7: there are fewer", w.setLayer(i, 5, 5), i);
        }
        Check.thrown("7: there are 6 others", STATE, () -> w.setLayer(7, 5, 5));
        Check.same("7: there are 5 others and this one", w.setLayer(6, 6, 6), 6);
        Twins.refused("7: above all", STATE, Watches::fullOfLayers, full -> full.setLayer(1, 50, 9));
        Twins.refused("7: below all but one", STATE, Watches::fullOfLayers, full -> full.setLayer(62, 50, 9));
    }

    // ---- light

    private static void chargeAtNone() {
        of(10, "`IndexOutOfBoundsException` if there is no such eye");
        index("10: chargeAt", EYES, (w, eye) -> w.chargeAt(eye, 0, 0, 10, 5));
    }

    private static void delayToNone() {
        of(11, "`IndexOutOfBoundsException` if there is no such eye");
        index("11: delayTo", EYES, (w, eye) -> w.delayTo(eye, 0, 0, 10));
    }

    private static DeepiceWatch withoutEyes() {
        DeepiceWatch w = new DeepiceWatch();
        w.addString(0, 0);
        w.seed(5);
        return w;
    }

    private static void noiseNone() {
        of(14, "`IllegalStateException` if there are no eyes");
        Twins.refused("14: not even strings", STATE, DeepiceWatch::new, w -> w.noise(1));
        Twins.refused("14: no eyes", STATE, RefusalTest::withoutEyes, w -> w.noise(30));
        DeepiceWatch one = withoutEyes();
        one.addEye(0, 0);
        Check.same("14: one eye is enough", one.noise(1), 1);
    }

    // ---- clocks, pulses

    private static void setClockNone() {
        of(16, "`IndexOutOfBoundsException` if there is no such eye");
        index("16: setClock", EYES, (w, eye) -> w.setClock(eye, 5, 5));
    }

    private static void callNone() {
        of(17, "`IndexOutOfBoundsException` if there is no such eye");
        index("17: call", EYES, (w, eye) -> w.call(eye, 20000));
    }

    /** Eye 5 of a furnished watch was called at 0 and at 10000. */
    private static void callNotAhead() {
        of(17, "`UnsupportedOperationException` if the last call kept was not ahead of it");
        refused("17: the same tick", UNSUPPORTED, w -> w.call(5, 10000));
        refused("17: one tick before", UNSUPPORTED, w -> w.call(5, 9999));
        refused("17: the least tick", UNSUPPORTED, w -> w.call(5, 0));
        Check.same("17: one tick behind", Watches.furnished().call(5, 10001), 10018);
        Check.same("17: an eye without a call", Watches.furnished().call(0, 0), 0);
        Twins.refused("17: 0 again", UNSUPPORTED, RefusalTest::calledAtZero, w -> w.call(0, 0));
        Check.same("17: 1 behind 0", calledAtZero().call(0, 1), 1);
        DeepiceWatch w = Watches.furnished();
        w.setClock(5, 7, 1000);
        Check.same("17: none is kept as the clock is set", w.call(5, 0), 7);
    }

    private static DeepiceWatch calledAtZero() {
        DeepiceWatch w = Watches.eyeAt(0, 0, 0);
        w.call(0, 0);
        return w;
    }

    private static void mendedNone() {
        of(18, "`IndexOutOfBoundsException` if there is no such eye");
        index("18: mended", EYES, (w, eye) -> w.mended(eye, 5));
    }

    private static void pulseAtNone() {
        of(20, "`IndexOutOfBoundsException` if there is no such pulse");
        index("20: pulseAt", Watches.furnished().pulses(), (w, pulse) -> w.pulseAt(pulse, 'q'));
        DeepiceWatch w = Watches.furnished();
        w.wipe();
        Check.thrown("20: none any more", INDEX, () -> w.pulseAt(0, 'q'));
    }

    // ---- events

    private static void eventAtNone() {
        of(25, "`IndexOutOfBoundsException` if there is no such event");
        Check.same("24: events", Watches.furnished().events(), EVENTS);
        index("25: eventAt", EVENTS, (w, event) -> w.eventAt(event, 'k'));
        DeepiceWatch w = Watches.furnished();
        w.wipe();
        Check.thrown("25: none any more", INDEX, () -> w.eventAt(0, 'k'));
    }

    private static void placeOfNone() {
        of(26, "`IndexOutOfBoundsException` if there is no such event");
        index("26: placeOf", EVENTS, (w, event) -> w.placeOf(event, 'z'));
    }

    /** The events 1, 2 and 3 are too long, too long and too far for partners. */
    private static void placeOfNotKept() {
        of(26, "`NoSuchElementException` if no pulse of it is kept");
        for (int i = 1; i <= 3; i++) {
            int event = i;
            refused("26: placeOf " + event, NONE, w -> w.placeOf(event, 'x'));
        }
    }

    private static void speedOfNone() {
        of(27, "`IndexOutOfBoundsException` if there is no such event");
        index("27: speedOf", EVENTS, (w, event) -> w.speedOf(event, 'z'));
    }

    private static void speedOfNotKept() {
        of(27, "`NoSuchElementException` if no pulse of it is kept");
        for (int i = 1; i <= 3; i++) {
            int event = i;
            refused("27: speedOf " + event, NONE, w -> w.speedOf(event, 'y'));
        }
    }

    private static void kindOfNone() {
        of(28, "`IndexOutOfBoundsException` if there is no such event");
        index("28: kindOf", EVENTS, (w, event) -> w.kindOf(event));
    }

    private static void kindOfNotKept() {
        of(28, "`NoSuchElementException` if no pulse of it is kept");
        for (int i = 1; i <= 3; i++) {
            int event = i;
            refused("28: kindOf " + event, NONE, w -> w.kindOf(event));
        }
    }

    private static void energyOfNone() {
        of(29, "`IndexOutOfBoundsException` if there is no such event");
        index("29: energyOf", EVENTS, (w, event) -> w.energyOf(event));
    }

    private static void energyOfNotKept() {
        of(29, "`NoSuchElementException` if no pulse of it is kept");
        for (int i = 1; i <= 3; i++) {
            int event = i;
            refused("29: energyOf " + event, NONE, w -> w.energyOf(event));
        }
    }

    private static void isVetoedNone() {
        of(30, "`IndexOutOfBoundsException` if there is no such event");
        index("30: isVetoed", EVENTS, (w, event) -> w.isVetoed(event));
    }

    // ---- the sky

    private static void lookClosed() {
        of(32, "`IllegalStateException` if the sky is closed");
        Twins.refused("32: at first", STATE, DeepiceWatch::new, w -> w.look(0));
        Twins.refused("32: as a day is closed", STATE, Watches::closedSky, w -> w.look(6));
        DeepiceWatch w = Watches.closedSky();
        w.vote(1, 0);
        Check.same("32: open", w.look(6), 2);
    }

    private static void claimClosed() {
        of(33, "`IllegalStateException` if the sky is closed");
        Twins.refused("33: at first", STATE, DeepiceWatch::new, w -> w.claim(0));
        Twins.refused("33: as a day is closed", STATE, Watches::closedSky, w -> w.claim(5));
        DeepiceWatch w = Watches.closedSky();
        w.takeBack(6);
        w.vote(1, 0);
        Check.same("33: open", w.claim(6), true);
    }

    private static void claimClaimed() {
        of(33, "`UnsupportedOperationException` if it is claimed");
        refused("33: claimed on another day", UNSUPPORTED, w -> w.claim(6));
        DeepiceWatch w = Watches.furnished();
        w.takeBack(6);
        Check.same("33: taken back", w.claim(6), true);
        Check.thrown("33: claimed now", UNSUPPORTED, () -> w.claim(6));
    }

    private static void trialsOfNotClaimed() {
        of(34, "`NoSuchElementException` if it is not claimed");
        Twins.refused("34: none at all", NONE, DeepiceWatch::new, w -> w.trialsOf(0));
        for (int i = 0; i < 8; i++) {
            int bin = i;
            if (bin == 6) {
                Check.same("34: it is claimed", Watches.furnished().trialsOf(bin), 1);
            } else {
                refused("34: bin " + bin, NONE, w -> w.trialsOf(bin));
            }
        }
        Twins.refused("34: a claim that was not made", NONE, RefusalTest::claimNotMade, w -> w.trialsOf(0));
        Twins.refused("34: taken back", NONE, RefusalTest::claimTakenBack, w -> w.trialsOf(6));
    }

    private static DeepiceWatch claimNotMade() {
        DeepiceWatch w = Watches.furnished();
        w.claim(0);
        return w;
    }

    private static DeepiceWatch claimTakenBack() {
        DeepiceWatch w = Watches.furnished();
        w.takeBack(6);
        return w;
    }

    // ---- days

    private static void closeDayFull() {
        of(37, "`IllegalStateException` if there are 6");
        Twins.refused("37: full", STATE, Watches::fullOfDays, w -> w.closeDay());
        DeepiceWatch w = Watches.furnished();
        for (int i = 1; i < 6; i++) {
            Check.same("37: there are " + i, w.days(), i);
            w.closeDay();
        }
        Check.thrown("37: there are 6", STATE, () -> w.closeDay());
    }

    private static void keptAtNone() {
        of(39, "`IndexOutOfBoundsException` if there is no such day, or event of it");
        index("39: day", 1, (w, day) -> w.keptAt(day, 0, 'f'));
        index("39: event", 2, (w, event) -> w.keptAt(0, event, 'f'));
        Twins.refused("39: a day without events", INDEX, RefusalTest::emptyDay, w -> w.keptAt(1, 0, 'f'));
        Twins.refused("39: a seventh day", INDEX, Watches::fullOfDays, w -> w.keptAt(6, 0, 'f'));
    }

    private static void keptKindNone() {
        of(40, "`IndexOutOfBoundsException` if there is no such day, or event of it");
        index("40: day", 1, (w, day) -> w.keptKind(day, 0));
        index("40: event", 2, (w, event) -> w.keptKind(0, event));
        Twins.refused("40: a day without events", INDEX, RefusalTest::emptyDay, w -> w.keptKind(1, 0));
        Twins.refused("40: a seventh day", INDEX, Watches::fullOfDays, w -> w.keptKind(6, 0));
    }

    private static DeepiceWatch emptyDay() {
        DeepiceWatch w = Watches.furnished();
        w.wipe();
        w.closeDay();
        return w;
    }

    private static void redoNone() {
        of(41, "`IndexOutOfBoundsException` if there is no such day");
        index("41: redo", 1, (w, day) -> w.redo(day));
        Check.same("41: a day without events", emptyDay().redo(1), 0);
        Twins.refused("41: a seventh day", INDEX, Watches::fullOfDays, w -> w.redo(6));
    }

    // ---- figures

    private static void loudShareNone() {
        of(43, "`ArithmeticException` if there are none");
        Twins.refused("43: not even strings", ARITHMETIC, DeepiceWatch::new, w -> w.loudShare());
        Twins.refused("43: no eyes", ARITHMETIC, RefusalTest::withoutEyes, w -> w.loudShare());
        Check.alike("43: one that is not loud", Watches.eyeAt(0, 0, 0).loudShare(), 0f);
    }

    private static void meanChargeNone() {
        of(44, "`ArithmeticException` if there are none");
        Twins.refused("44: no pulses", ARITHMETIC, DeepiceWatch::new, w -> w.meanCharge());
        Twins.refused("44: taken away", ARITHMETIC, RefusalTest::wiped, w -> w.meanCharge());
        Twins.refused("44: gone with the day", ARITHMETIC, RefusalTest::emptyDay, w -> w.meanCharge());
        DeepiceWatch w = Watches.eyeAt(0, 0, 0);
        w.noise(1);
        Check.alike("44: one", w.meanCharge(), 1.0);
    }

    private static DeepiceWatch wiped() {
        DeepiceWatch w = Watches.furnished();
        w.wipe();
        return w;
    }

    // ---- all promises together

    private static void documentedFirst() {
        Sentences.of("Terms", "If several exceptions apply, the one that is documented first is thrown.");
        Twins.refused("2: range, 6", ARGUMENT, Watches::fullOfStrings, w -> w.addString(0, 21));
        refused("4: string, range", INDEX, w -> w.addEye(3, 64));
        Twins.refused("4: string, 24", INDEX, Watches::fullOfEyes, w -> w.addEye(-1, 5));
        Twins.refused("4: range, 24", ARGUMENT, Watches::fullOfEyes, w -> w.addEye(0, -1));
        Twins.refused("4: string, range, 24", INDEX, Watches::fullOfEyes, w -> w.addEye(3, 64));
        refused("5: eye, state", INDEX, w -> w.setEye(EYES, 'x'));
        Twins.refused("7: range, 6 others", ARGUMENT, Watches::fullOfLayers, w -> w.setLayer(-1, 5, 5));
        Twins.refused("7: scattering, 6 others", ARGUMENT, Watches::fullOfLayers, w -> w.setLayer(5, 100, 5));
        Twins.refused("7: eaten, 6 others", ARGUMENT, Watches::fullOfLayers, w -> w.setLayer(5, 5, 21));
        refused("10: eye, place", INDEX, w -> w.chargeAt(-1, 21, 0, 0, 5));
        refused("10: eye, strength", INDEX, w -> w.chargeAt(EYES, 0, 0, 0, 0));
        refused("11: eye, place", INDEX, w -> w.delayTo(EYES, 0, 0, 64));
        Twins.refused("14: range, no eyes", ARGUMENT, RefusalTest::withoutEyes, w -> w.noise(0));
        Twins.refused("14: range, no eyes", ARGUMENT, RefusalTest::withoutEyes, w -> w.noise(31));
        refused("16: eye, range", INDEX, w -> w.setClock(-1, 10000, 0));
        refused("17: eye, range", INDEX, w -> w.call(EYES, -1));
        refused("17: range, not ahead", ARGUMENT, w -> w.call(5, -1));
        refused("20: pulse, thing", INDEX, w -> w.pulseAt(w.pulses(), 'x'));
        refused("25: event, thing", INDEX, w -> w.eventAt(EVENTS, 'x'));
        refused("26: event, axis", INDEX, w -> w.placeOf(-1, 'w'));
        refused("26: axis, none kept", ARGUMENT, w -> w.placeOf(1, 'w'));
        refused("27: event, axis", INDEX, w -> w.speedOf(EVENTS, 'w'));
        refused("27: axis, none kept", ARGUMENT, w -> w.speedOf(1, 'w'));
        Twins.refused("32: range, closed", ARGUMENT, Watches::closedSky, w -> w.look(8));
        Twins.refused("33: range, closed", ARGUMENT, Watches::closedSky, w -> w.claim(-1));
        Twins.refused("33: closed, claimed", STATE, Watches::closedSky, w -> w.claim(6));
        refused("34: range, not claimed", ARGUMENT, w -> w.trialsOf(8));
        refused("39: day, thing", INDEX, w -> w.keptAt(1, 0, 'x'));
        refused("39: event, thing", INDEX, w -> w.keptAt(0, 2, 'x'));
    }

    /** One behind the other on one watch. */
    private static void changesNothing() {
        Sentences.of("Terms", "A method that throws an exception changes nothing.");
        DeepiceWatch w = Watches.fullOfLayers();
        Check.thrown("2", ARGUMENT, () -> w.addString(-21, 0));
        Check.thrown("3", INDEX, () -> w.setOuter(3, true));
        Check.thrown("4", ARGUMENT, () -> w.addEye(0, 64));
        Check.thrown("5", ARGUMENT, () -> w.setEye(0, 'D'));
        Check.thrown("6", INDEX, () -> w.distance(0, 6));
        Check.thrown("7", STATE, () -> w.setLayer(5, 5, 5));
        Check.thrown("10", ARGUMENT, () -> w.chargeAt(0, 0, 0, 64, 1));
        Check.thrown("11", ARGUMENT, () -> w.delayTo(0, 0, 21, 0));
        Check.thrown("12", ARGUMENT, () -> w.flash(0, 0, 10, 1, 100000));
        Check.thrown("13", ARGUMENT, () -> w.pass(0, 0, 10, 62, 1, 1, 0));
        Check.thrown("14", ARGUMENT, () -> w.noise(31));
        Check.thrown("15", ARGUMENT, () -> w.seed(0));
        Check.thrown("16", ARGUMENT, () -> w.setClock(5, 10000, 0));
        Check.thrown("17", UNSUPPORTED, () -> w.call(5, 10000));
        Check.thrown("18", INDEX, () -> w.mended(6, 0));
        Check.thrown("20", ARGUMENT, () -> w.pulseAt(0, 'E'));
        Check.thrown("22", ARGUMENT, () -> w.setTrigger(3, 10000));
        Check.thrown("23", ARGUMENT, () -> w.setPartner(50, 0));
        Check.thrown("25", ARGUMENT, () -> w.eventAt(0, 'F'));
        Check.thrown("26", NONE, () -> w.placeOf(1, 'x'));
        Check.thrown("27", NONE, () -> w.speedOf(1, 'x'));
        Check.thrown("28", NONE, () -> w.kindOf(1));
        Check.thrown("29", NONE, () -> w.energyOf(1));
        Check.thrown("30", INDEX, () -> w.isVetoed(6));
        Check.thrown("31", ARGUMENT, () -> w.vote(100, 0));
        Check.thrown("32", ARGUMENT, () -> w.look(8));
        Check.thrown("33", UNSUPPORTED, () -> w.claim(6));
        Check.thrown("34", NONE, () -> w.trialsOf(7));
        Check.thrown("35", ARGUMENT, () -> w.takeBack(8));
        Check.thrown("39", ARGUMENT, () -> w.keptAt(0, 0, 'F'));
        Check.thrown("40", INDEX, () -> w.keptKind(0, 2));
        Check.thrown("41", INDEX, () -> w.redo(1));
        Twins.alike("a call of each that was refused", w, Watches.fullOfLayers());
    }
}
