import java.util.NoSuchElementException;

/** Promises 31 to 36: votes, looks, claims, trials. */
public final class SkyTest {
    private static final Class<IllegalArgumentException> ARGUMENT = IllegalArgumentException.class;
    private static final Class<IllegalStateException> STATE = IllegalStateException.class;
    private static final Class<NoSuchElementException> NONE = NoSuchElementException.class;
    private static final Class<UnsupportedOperationException> UNSUPPORTED = UnsupportedOperationException.class;

    private static int next = 0;

    public static void main(String[] args) {
        vote();
        look();
        bins();
        binsOfSlowSpeeds();
        binsLeaveOut();
        claim();
        claimShare();
        claimNeedsTwo();
        claimsStay();
        takeBack();
        Check.end();
    }

    /** Eyes on a cross of arms of 10 about (0, 0, 30), and in the corners of a cube. */
    private static DeepiceWatch withEyes() {
        DeepiceWatch w = new DeepiceWatch();
        next = 0;
        w.addString(0, 0);
        w.addString(-10, 0);
        w.addString(10, 0);
        w.addString(0, -10);
        w.addString(0, 10);
        for (int i = 0; i < 5; i++) {
            w.addEye(i, 30);
        }
        w.addEye(0, 20);
        w.addEye(0, 40);
        w.setTrigger(3, 300);
        return w;
    }

    /** A track through the middle eye, from one to another in 200 ticks, 10000 after the one before. */
    private static void track(DeepiceWatch w, int dx, int dy, int dz) {
        int from = next;
        next += 10000;
        for (int i = -1; i <= 1; i++) {
            Check.same("a pulse", w.flash(10 * dx * i, 10 * dy * i, 30 + 10 * dz * i, 1, from + 100 + 100 * i), 1);
        }
    }

    private static void tracks(DeepiceWatch w, int many, int dx, int dy, int dz) {
        for (int i = 0; i < many; i++) {
            track(w, dx, dy, dz);
        }
    }

    private static void vote() {
        DeepiceWatch w = new DeepiceWatch();
        Check.same("31: none for it", w.vote(0, 0), false);
        Check.same("31: as many", w.vote(3, 3), false);
        Check.same("31: more against", w.vote(0, 99), false);
        Check.same("31: more for it", w.vote(2, 1), true);
        Check.same("31: a vote never closes it", w.vote(0, 99), true);
        Check.thrown("31: ayes below", ARGUMENT, () -> w.vote(-1, 0));
        Check.thrown("31: ayes above", ARGUMENT, () -> w.vote(100, 0));
        Check.thrown("31: noes below", ARGUMENT, () -> w.vote(0, -1));
        Check.thrown("31: noes above", ARGUMENT, () -> w.vote(0, 100));
        w.closeDay();
        Check.same("31: closed with the day", w.vote(0, 0), false);
        Check.same("31: open again", w.vote(99, 98), true);
        DeepiceWatch other = new DeepiceWatch();
        Check.thrown("31: throws", ARGUMENT, () -> other.vote(99, -1));
        Check.same("31: and does not open it", other.vote(0, 0), false);
    }

    private static void look() {
        DeepiceWatch w = withEyes();
        Check.thrown("32: closed", STATE, () -> w.look(0));
        Check.thrown("32: range is told first", ARGUMENT, () -> w.look(8));
        w.vote(1, 0);
        Check.thrown("32: below", ARGUMENT, () -> w.look(-1));
        Check.thrown("32: above", ARGUMENT, () -> w.look(8));
        Check.same("36: none by now", w.trials(), 0);
        Check.same("32: empty", w.look(0), 0);
        Check.same("36: one", w.trials(), 1);
        Check.same("32: empty, too", w.look(7), 0);
        track(w, 1, 0, 0);
        Check.same("32: one is in it", w.look(7), 1);
        Check.same("32: again", w.look(7), 1);
        Check.same("36: each one counts", w.trials(), 4);
        w.closeDay();
        Check.same("36: they stay as the day is closed", w.trials(), 4);
        Check.thrown("32: closed with the day", STATE, () -> w.look(0));
        w.vote(1, 0);
        Check.same("32: only the events of now", w.look(7), 0);
    }

    private static void bins() {
        DeepiceWatch w = withEyes();
        w.vote(1, 0);
        tracks(w, 1, 1, 0, 0);
        tracks(w, 2, -1, 0, 0);
        tracks(w, 3, 0, -1, 0);
        Check.same("32: x up is 4, 0 counts as up", w.look(7), 1);
        Check.same("32: x down is 2 and 1", w.look(3), 2);
        Check.same("32: y down is 4 and 1", w.look(5), 3);
        w.wipe();
        next = 0;
        tracks(w, 2, 0, 0, -1);
        track(w, 0, 1, 0);
        Check.same("32: z down is 4 and 2", w.look(6), 2);
        Check.same("32: y up", w.look(7), 1);
        for (int bin = 0; bin < 6; bin++) {
            Check.same("32: the others", w.look(bin), 0);
        }
        DeepiceWatch slanted = new DeepiceWatch();
        for (int i = -1; i <= 1; i++) {
            slanted.addString(10 * i, 10 * i);
            slanted.addEye(i + 1, 30 + 10 * i);
        }
        slanted.setTrigger(3, 300);
        slanted.vote(1, 0);
        for (int i = -1; i <= 1; i++) {
            slanted.flash(-10 * i, -10 * i, 30 - 10 * i, 1, 100 + 100 * i);
        }
        Check.same("32: all three down", slanted.look(0), 1);
    }

    /** A fast track up; the charge of 3 at -1 on x or y, 25 ticks late, makes a speed of -1.47 there. */
    private static void binsOfSlowSpeeds() {
        int[] bins = {2, 4};
        for (int axis = 0; axis < 2; axis++) {
            int x = axis == 0 ? -1 : 0;
            int y = axis == 1 ? -1 : 0;
            DeepiceWatch w = new DeepiceWatch();
            w.addString(0, 0);
            w.addString(x, y);
            for (int i = 1; i <= 3; i++) {
                w.addEye(0, 10 * i);
            }
            w.addEye(1, 20);
            w.setTrigger(3, 300);
            w.vote(1, 0);
            w.setEye(3, 'd');
            for (int i = 1; i <= 3; i++) {
                w.flash(0, 0, 10 * i, 1, 1300 - 100 * i);
            }
            Check.same("32: without that one", w.look(6), 1);
            w.setEye(3, 'g');
            Check.same("a pulse", w.flash(10 * x, 10 * y, 20, 1, 1125 - 98), 1);
            Check.same("27: -1", w.speedOf(0, axis == 0 ? 'x' : 'y'), -1);
            Check.same("32: -1 is below 0", w.look(bins[axis]), 1);
        }
    }

    private static void binsLeaveOut() {
        DeepiceWatch w = withEyes();
        w.vote(1, 0);
        track(w, 0, 0, 1);
        Check.same("30: vetoed", w.isVetoed(0), true);
        Check.same("32: one that is vetoed is in no bin", w.look(7), 0);
        w.wipe();
        track(w, 1, 0, 0);
        w.setOuter(1, true);
        Check.same("32: nor one from outside", w.look(7), 0);
        w.setOuter(1, false);
        w.setPartner(1, 300);
        Check.same("32: nor one without pulses kept", w.look(7), 0);
        w.setPartner(20, 300);
        Check.same("32: now it is", w.look(7), 1);
        w.wipe();
        for (int i = 0; i < 3; i++) {
            w.flash(-10 + 10 * i, 0, 30, 1, 500);
        }
        Check.same("24: an event", w.events(), 1);
        Check.same("32: a ball is in none", w.look(7), 0);
    }

    private static void claim() {
        DeepiceWatch w = withEyes();
        Check.thrown("33: closed", STATE, () -> w.claim(7));
        Check.thrown("33: range is told first", ARGUMENT, () -> w.claim(-1));
        Check.thrown("34: not claimed", NONE, () -> w.trialsOf(7));
        Check.thrown("34: range is told first", ARGUMENT, () -> w.trialsOf(8));
        Check.thrown("34: below", ARGUMENT, () -> w.trialsOf(-1));
        w.vote(1, 0);
        Check.thrown("33: above", ARGUMENT, () -> w.claim(8));
        tracks(w, 2, 1, 0, 0);
        w.look(0);
        w.look(1);
        Check.same("33: made", w.claim(7), true);
        Check.same("34: it is a look, too", w.trialsOf(7), 3);
        Check.same("36: a trial", w.trials(), 3);
        Check.thrown("33: claimed", UNSUPPORTED, () -> w.claim(7));
        Check.same("36: no trial", w.trials(), 3);
        w.look(7);
        Check.same("34: as it was then", w.trialsOf(7), 3);
        Check.same("33: of an empty bin it is not made", w.claim(0), false);
        Check.same("36: but a trial", w.trials(), 5);
        Check.thrown("34: not claimed", NONE, () -> w.trialsOf(0));
        Check.same("33: and may be tried again", w.claim(0), false);
    }

    /** 2 of 5 are claimed, as 16 are at least 15; 2 of 6 are not, as 16 are below 18. */
    private static void claimShare() {
        DeepiceWatch w = withEyes();
        w.vote(1, 0);
        tracks(w, 2, -1, 0, 0);
        tracks(w, 3, 1, 0, 0);
        Check.same("33: 2 of 5", w.claim(3), true);
        w.takeBack(3);
        track(w, 0, 0, 1);
        Check.same("33: one that is vetoed does not count", w.claim(3), true);
        w.takeBack(3);
        track(w, 0, 0, -1);
        Check.same("33: 2 of 6", w.claim(3), false);
        track(w, -1, 0, 0);
        Check.same("33: 3 of 7", w.claim(3), true);
        Check.same("33: 3 of 7, too", w.claim(7), true);
        Check.same("33: 1 of 7", w.claim(6), false);
        w.takeBack(3);
        track(w, 0, -1, 0);
        Check.same("33: 3 of 8, 24 are at least 24", w.claim(3), true);
        w.takeBack(3);
        track(w, 0, -1, 0);
        Check.same("33: 3 of 9", w.claim(3), false);
    }

    private static void claimNeedsTwo() {
        DeepiceWatch w = withEyes();
        w.vote(1, 0);
        track(w, 1, 0, 0);
        Check.same("33: 1 of 1", w.claim(7), false);
        track(w, 1, 0, 0);
        Check.same("33: 2 of 2", w.claim(7), true);
    }

    private static void claimsStay() {
        DeepiceWatch w = withEyes();
        w.vote(1, 0);
        tracks(w, 2, 1, 0, 0);
        w.claim(7);
        w.wipe();
        Check.same("34: without its events", w.trialsOf(7), 1);
        w.closeDay();
        Check.same("34: behind the day", w.trialsOf(7), 1);
        Check.thrown("33: closed before claimed", STATE, () -> w.claim(7));
        w.vote(1, 0);
        Check.thrown("33: still claimed", UNSUPPORTED, () -> w.claim(7));
    }

    private static void takeBack() {
        DeepiceWatch w = withEyes();
        Check.same("35: none, and a closed sky is fine", w.takeBack(7), false);
        Check.thrown("35: below", ARGUMENT, () -> w.takeBack(-1));
        Check.thrown("35: above", ARGUMENT, () -> w.takeBack(8));
        w.vote(1, 0);
        tracks(w, 2, 1, 0, 0);
        w.claim(7);
        Check.same("35: another bin", w.takeBack(6), false);
        Check.same("35: taken back", w.takeBack(7), true);
        Check.same("35: only once", w.takeBack(7), false);
        Check.thrown("34: it is gone", NONE, () -> w.trialsOf(7));
        Check.same("36: its trial is not", w.trials(), 1);
        Check.same("33: claimed anew", w.claim(7), true);
        Check.same("34: with more trials", w.trialsOf(7), 2);
    }
}
