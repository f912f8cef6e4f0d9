/** Promises 37 to 41: days that are closed, and done again. */
public final class DayTest {
    private static final Class<IllegalArgumentException> ARGUMENT = IllegalArgumentException.class;
    private static final Class<IllegalStateException> STATE = IllegalStateException.class;
    private static final Class<IndexOutOfBoundsException> INDEX = IndexOutOfBoundsException.class;

    public static void main(String[] args) {
        closeDay();
        closeDayWithMany();
        closeDayTooOften();
        whatIsKept();
        whatIsKeptWithoutPulses();
        whatIsKeptStays();
        indexes();
        redo();
        redoOfSome();
        redoKeepsItsPulses();
        Check.end();
    }

    private static DeepiceWatch withEyes() {
        DeepiceWatch w = new DeepiceWatch();
        w.addString(0, 0);
        for (int i = 0; i < 7; i++) {
            w.addEye(0, 10 * i);
        }
        w.setTrigger(3, 500);
        return w;
    }

    /** Pulses of 255 at three eyes: energy 86 in the ice at first, 51 in clear ice, 479 in the murkiest. */
    private static void track(DeepiceWatch w, int tick, int step) {
        for (int i = -1; i <= 1; i++) {
            Check.same("a pulse", w.flash(0, 0, 20 + 10 * i * step, 1, tick + 100 + 100 * i), 1);
        }
    }

    private static void closeDay() {
        DeepiceWatch w = withEyes();
        Check.same("38: none", w.days(), 0);
        Check.same("37: no events", w.closeDay(), 0);
        Check.same("38: one", w.days(), 1);
        track(w, 0, 1);
        track(w, 1000, -1);
        w.vote(1, 0);
        w.look(0);
        w.call(0, 100);
        Check.same("37: two events", w.closeDay(), 2);
        Check.same("38: two", w.days(), 2);
        Check.same("37: pulses are gone", w.pulses(), 0);
        Check.same("37: so are events", w.events(), 0);
        Check.same("37: trials are not", w.trials(), 1);
        Check.same("37: the sky is closed", w.vote(0, 0), false);
        Check.thrown("37: clocks go on", UnsupportedOperationException.class, () -> w.call(0, 100));
        Check.same("37: numbers of its own", w.keptAt(1, 1, 'f'), 1000);
    }

    private static void closeDayWithMany() {
        DeepiceWatch w = withEyes();
        w.setTrigger(2, 300);
        for (int i = 15; i > 0; i--) {
            w.flash(0, 0, 10, 1, 1000 * i);
            w.flash(0, 0, 20, 1, 1000 * i + 100);
        }
        Check.same("37: 15 events", w.events(), 15);
        Check.same("37: 12 at most", w.closeDay(), 12);
        Check.same("37: the first ones, first", w.keptAt(0, 0, 'f'), 1000);
        Check.same("37: the first ones, last", w.keptAt(0, 11, 'f'), 12000);
        Check.thrown("37: no more", INDEX, () -> w.keptAt(0, 12, 'f'));
    }

    private static void closeDayTooOften() {
        DeepiceWatch w = withEyes();
        for (int i = 0; i < 6; i++) {
            Check.same("37: a day", w.closeDay(), 0);
        }
        track(w, 0, 1);
        w.vote(1, 0);
        Check.thrown("37: a seventh", STATE, () -> w.closeDay());
        Check.same("37: pulses stay", w.pulses(), 3);
        Check.same("37: the sky stays open", w.vote(0, 0), true);
        Check.same("38: six", w.days(), 6);
    }

    private static void whatIsKept() {
        DeepiceWatch w = withEyes();
        w.setClock(2, 500, 0);
        w.call(2, 0);
        track(w, 1000, 1);
        track(w, 3000, -1);
        for (int i = 1; i <= 3; i++) {
            w.flash(0, 0, 10 * i, 1, 9000);
        }
        w.setLayer(40, 1, 1);
        Check.same("37: three events", w.closeDay(), 3);
        Check.same("39: first tick", w.keptAt(0, 0, 'f'), 1000);
        Check.same("39: energy", w.keptAt(0, 0, 'e'), 86);
        Check.same("39: down", w.keptAt(0, 0, 'v'), 1);
        Check.same("39: version", w.keptAt(0, 0, 'i'), 1);
        Check.same("40: a track", w.keptKind(0, 0), 't');
        Check.same("39: up", w.keptAt(0, 1, 'v'), 0);
        Check.same("40: a track, too", w.keptKind(0, 1), 't');
        Check.same("39: third tick", w.keptAt(0, 2, 'f'), 9000);
        Check.same("40: a ball", w.keptKind(0, 2), 'b');
    }

    private static void whatIsKeptWithoutPulses() {
        DeepiceWatch w = withEyes();
        w.setPartner(9, 300);
        track(w, 0, 1);
        w.setOuter(0, true);
        Check.same("37: one event", w.closeDay(), 1);
        Check.same("40: no kind", w.keptKind(0, 0), '-');
        Check.same("39: no energy", w.keptAt(0, 0, 'e'), 0);
        Check.same("39: vetoed by its first pulse", w.keptAt(0, 0, 'v'), 1);
        Check.same("39: version", w.keptAt(0, 0, 'i'), 0);
        w.setLayer(0, 10, 20);
        Check.same("41: 0 as before", w.redo(0), 0);
        Check.same("39: the version of now", w.keptAt(0, 0, 'i'), 1);
    }

    private static void whatIsKeptStays() {
        DeepiceWatch w = withEyes();
        track(w, 0, -1);
        w.closeDay();
        w.setOuter(0, true);
        w.setLayer(0, 10, 20);
        w.setTrigger(9, 1);
        w.setPartner(1, 1);
        w.setClock(3, 1000, 0);
        track(w, 5000, 1);
        Check.same("39: tick", w.keptAt(0, 0, 'f'), 0);
        Check.same("39: energy", w.keptAt(0, 0, 'e'), 86);
        Check.same("39: not vetoed", w.keptAt(0, 0, 'v'), 0);
        Check.same("39: version", w.keptAt(0, 0, 'i'), 0);
        Check.same("40: kind", w.keptKind(0, 0), 't');
    }

    private static void indexes() {
        DeepiceWatch w = withEyes();
        Check.thrown("39: no day", INDEX, () -> w.keptAt(0, 0, 'f'));
        Check.thrown("40: no day", INDEX, () -> w.keptKind(0, 0));
        Check.thrown("41: no day", INDEX, () -> w.redo(0));
        track(w, 0, 1);
        w.closeDay();
        Check.thrown("39: no such day", INDEX, () -> w.keptAt(1, 0, 'f'));
        Check.thrown("39: day below 0", INDEX, () -> w.keptAt(-1, 0, 'f'));
        Check.thrown("39: no such event", INDEX, () -> w.keptAt(0, 1, 'f'));
        Check.thrown("39: event below 0", INDEX, () -> w.keptAt(0, -1, 'f'));
        Check.thrown("39: index is told first", INDEX, () -> w.keptAt(0, 1, 'x'));
        Check.thrown("39: no such thing", ARGUMENT, () -> w.keptAt(0, 0, 'x'));
        Check.thrown("40: no such day", INDEX, () -> w.keptKind(1, 0));
        Check.thrown("40: day below 0", INDEX, () -> w.keptKind(-1, 0));
        Check.thrown("40: no such event", INDEX, () -> w.keptKind(0, 1));
        Check.thrown("40: event below 0", INDEX, () -> w.keptKind(0, -1));
        Check.thrown("41: no such day", INDEX, () -> w.redo(1));
        Check.thrown("41: day below 0", INDEX, () -> w.redo(-1));
    }

    private static void redo() {
        DeepiceWatch w = withEyes();
        track(w, 0, 1);
        track(w, 1000, -1);
        w.closeDay();
        track(w, 0, 1);
        w.closeDay();
        Check.same("41: the same ice", w.redo(0), 0);
        w.setLayer(0, 10, 0);
        Check.same("41: both are other ones", w.redo(0), 2);
        Check.same("39: energy", w.keptAt(0, 0, 'e'), 51);
        Check.same("39: energy", w.keptAt(0, 1, 'e'), 51);
        Check.same("39: version", w.keptAt(0, 1, 'i'), 1);
        Check.same("39: the other day's energy", w.keptAt(1, 0, 'e'), 86);
        Check.same("39: the other day's version", w.keptAt(1, 0, 'i'), 0);
        w.setLayer(0, 10, 0);
        Check.same("41: none is another one", w.redo(0), 0);
        Check.same("39: but of the ice of now", w.keptAt(0, 0, 'i'), 2);
        w.setLayer(0, 10, 20);
        Check.same("41: the other day", w.redo(1), 1);
        Check.same("39: its energy", w.keptAt(1, 0, 'e'), 479);
        Check.same("39: the first one's is as it was", w.keptAt(0, 0, 'e'), 51);
    }

    private static void redoOfSome() {
        DeepiceWatch w = withEyes();
        track(w, 0, 1);
        for (int i = 4; i <= 6; i++) {
            w.flash(0, 0, 10 * i, 1, 1000);
        }
        Check.same("37: two events", w.closeDay(), 2);
        w.setLayer(40, 10, 0);
        Check.same("41: the deep one alone", w.redo(0), 1);
        Check.same("39: the high one", w.keptAt(0, 0, 'e'), 86);
        Check.same("39: the deep one", w.keptAt(0, 1, 'e'), 51);
        Check.same("39: both of the ice of now", w.keptAt(0, 0, 'i'), 1);
        w.setLayer(0, 10, 20);
        Check.same("41: now the high one", w.redo(0), 1);
        Check.same("39: the high one", w.keptAt(0, 0, 'e'), 479);
    }

    private static void redoKeepsItsPulses() {
        DeepiceWatch w = withEyes();
        w.setPartner(10, 300);
        track(w, 0, 1);
        w.flash(0, 0, 60, 1, 50);
        w.closeDay();
        Check.same("39: without the far pulse", w.keptAt(0, 0, 'e'), 86);
        for (int i = 0; i < 7; i++) {
            w.setEye(i, 'd');
        }
        w.setOuter(0, true);
        w.setPartner(99, 9999);
        w.setLayer(0, 10, 0);
        Check.same("41: another one", w.redo(0), 1);
        Check.same("39: by the pulses of then", w.keptAt(0, 0, 'e'), 51);
        Check.same("39: the rest stays", w.keptAt(0, 0, 'f'), 0);
        Check.same("40: the rest stays", w.keptKind(0, 0), 't');
    }
}
