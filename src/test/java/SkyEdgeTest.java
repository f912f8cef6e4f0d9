import java.util.NoSuchElementException;

/** The sentences on the sky that name a boundary case, each with a test of its own. */
public final class SkyEdgeTest {
    private static final Class<IllegalArgumentException> ARGUMENT = IllegalArgumentException.class;
    private static final Class<IllegalStateException> STATE = IllegalStateException.class;
    private static final Class<NoSuchElementException> NONE = NoSuchElementException.class;
    private static final Class<UnsupportedOperationException> UNSUPPORTED = UnsupportedOperationException.class;

    public static void main(String[] args) {
        eightBins();
        speedsNotBelowZero();
        tracksOfNowNotVetoed();
        emptyBins();
        closedAtFirst();
        closedWithTheDay();
        voteForMoreThanAgainst();
        voteNeverCloses();
        eachLookIsATrial();
        claimIsALook();
        claimOfTwo();
        claimOfEightThirds();
        claimNamesTrials();
        noTrialsAtFirst();
        takeBackNone();
        Sentences.end();
    }

    private static void eightBins() {
        Sentences.of("Terms", "It has 8 bins");
        for (int bin = 0; bin < 8; bin++) {
            DeepiceWatch w = Watches.cube();
            Watches.track(w, bin, 0);
            for (int other = 0; other < 8; other++) {
                Check.same("32: a track of bin " + bin + " in " + other, w.look(other), bin == other ? 1 : 0);
                Check.same("32: as before, in " + other, w.look(other), bin == other ? 1 : 0);
            }
        }
        DeepiceWatch w = Watches.cube();
        Check.thrown("32: a ninth", ARGUMENT, () -> w.look(8));
        Check.thrown("32: below the first", ARGUMENT, () -> w.look(-1));
    }

    private static void speedsNotBelowZero() {
        Sentences.of("Terms", "is in the bin of 4, 2 and 1 for a speed on x, y and z that is not below 0");
        int[] along = {6, 6, 7};
        int[] below = {2, 4, 6};
        for (int axis = 0; axis < 3; axis++) {
            Check.same("32: 0 on axis " + axis, Watches.slow(axis, -1, 0).look(along[axis]), 1);
            Check.same("32: -0.9998, which is 0, on axis " + axis, Watches.slow(axis, -1, 17).look(along[axis]), 1);
            Check.same("32: -1 on axis " + axis, Watches.slow(axis, -1, 18).look(along[axis]), 0);
            Check.same("32: -1 on axis " + axis, Watches.slow(axis, -1, 18).look(below[axis]), 1);
        }
        Check.same("32: 1 on x", Watches.slow(0, 1, 18).look(6), 1);
        Check.same("32: 1 on y", Watches.slow(1, 1, 18).look(6), 1);
        Check.same("32: 0.9998 on z, which is 0", Watches.slow(2, 1, 17).look(7), 1);
        Check.same("32: 1 on z is a veto", Watches.slow(2, 1, 18).look(7), 0);
    }

    private static void tracksOfNowNotVetoed() {
        Sentences.of("Terms", "a track of the events of now that is not vetoed is in the bin");
        DeepiceWatch w = Watches.cube();
        Watches.track(w, 7, 0);
        Check.same("32: one", w.look(7), 1);
        w.setOuter(1, true);
        Check.same("32: vetoed", w.look(7), 0);
        w.setOuter(1, false);
        w.setPartner(13, 300);
        Check.same("32: without pulses kept", w.look(7), 0);
        w.setPartner(20, 300);
        w.setTrigger(4, 300);
        Check.same("32: no event any more", w.look(7), 0);
        w.setTrigger(3, 300);
        Check.same("32: again one", w.look(7), 1);
        w.wipe();
        Check.same("32: of now", w.look(7), 0);
        Watches.track(w, 7, 0);
        w.closeDay();
        w.vote(1, 0);
        Check.same("32: not of a day", w.look(7), 0);
        for (int i = -1; i <= 1; i++) {
            w.flash(10 * i, 10 * i, 30, 1, 1000);
        }
        Check.same("28: a ball", w.kindOf(0), 'b');
        Check.same("32: no ball", w.look(7), 0);
    }

    private static void emptyBins() {
        Sentences.of("Promise 32", "Returns how many events are in it.");
        DeepiceWatch w = new DeepiceWatch();
        w.vote(1, 0);
        for (int bin = 0; bin < 8; bin++) {
            Check.same("32: no events", w.look(bin), 0);
        }
        DeepiceWatch many = Watches.cube();
        Watches.tracks(many, 2, 66, 0);
        Check.same("19: 198 pulses", many.pulses(), 198);
        Check.same("32: all events of now, not 12", many.look(2), 66);
        Check.same("33: nor for a claim", many.claim(2), true);
    }

    private static void closedAtFirst() {
        Sentences.of("Terms", "The sky is closed at first");
        DeepiceWatch w = new DeepiceWatch();
        Check.thrown("32: closed", STATE, () -> w.look(0));
        Check.thrown("33: closed", STATE, () -> w.claim(0));
        Check.same("31: closed", w.vote(0, 0), false);
    }

    private static void closedWithTheDay() {
        Sentences.of("Terms", "and as a day is closed");
        DeepiceWatch w = Watches.cube();
        Check.same("32: open", w.look(0), 0);
        for (int day = 0; day < 6; day++) {
            w.closeDay();
            Check.thrown("32: closed", STATE, () -> w.look(0));
            Check.thrown("33: closed", STATE, () -> w.claim(0));
            Check.same("31: closed", w.vote(0, 0), false);
            Check.same("31: open", w.vote(1, 0), true);
        }
        Check.thrown("37: a seventh day", STATE, () -> w.closeDay());
        Check.same("32: does not close it", w.look(0), 0);
        Check.same("31: nor a day of a sky that was closed", closedTwice().vote(1, 0), true);
    }

    private static DeepiceWatch closedTwice() {
        DeepiceWatch w = new DeepiceWatch();
        w.closeDay();
        w.closeDay();
        Check.same("31: closed", w.vote(0, 0), false);
        return w;
    }

    private static void voteForMoreThanAgainst() {
        Sentences.of("Terms", "a vote opens it if more are for it than against");
        int[][] votes = {{0, 0}, {1, 1}, {0, 1}, {98, 99}, {99, 99}, {0, 99}, {50, 50}};
        for (int[] vote : votes) {
            Check.same("31: " + vote[0] + " to " + vote[1], new DeepiceWatch().vote(vote[0], vote[1]), false);
        }
        int[][] more = {{1, 0}, {2, 1}, {99, 98}, {99, 0}, {51, 50}};
        for (int[] vote : more) {
            Check.same("31: " + vote[0] + " to " + vote[1], new DeepiceWatch().vote(vote[0], vote[1]), true);
        }
        DeepiceWatch w = new DeepiceWatch();
        Check.same("31: votes are not summed", w.vote(5, 5), false);
        Check.same("31: votes are not summed", w.vote(7, 7), false);
    }

    private static void voteNeverCloses() {
        Sentences.of("Terms", "and never closes it");
        DeepiceWatch w = new DeepiceWatch();
        w.vote(1, 0);
        Check.same("31: all against", w.vote(0, 99), true);
        Check.same("31: as many", w.vote(0, 0), true);
        Check.same("31: one more against", w.vote(98, 99), true);
        Check.same("32: it is open", w.look(0), 0);
    }

    private static void eachLookIsATrial() {
        Sentences.of("Terms", "Each look at a bin is a trial.");
        DeepiceWatch w = Watches.cube();
        Check.same("36: none", w.trials(), 0);
        w.look(0);
        Check.same("36: one", w.trials(), 1);
        w.look(0);
        Check.same("36: the same bin again", w.trials(), 2);
        for (int bin = 0; bin < 8; bin++) {
            w.look(bin);
        }
        Check.same("36: each bin", w.trials(), 10);
        Check.thrown("32: a ninth bin", ARGUMENT, () -> w.look(8));
        w.closeDay();
        Check.thrown("32: closed", STATE, () -> w.look(0));
        Check.same("36: not what is refused", w.trials(), 10);
    }

    private static void claimIsALook() {
        Sentences.of("Terms", "A claim is a look, too");
        DeepiceWatch w = Watches.cube();
        Check.same("33: of an empty bin", w.claim(0), false);
        Check.same("36: not made, but a trial", w.trials(), 1);
        Watches.tracks(w, 7, 2, 0);
        Check.same("33: of two", w.claim(7), true);
        Check.same("36: made, and a trial", w.trials(), 2);
        Check.thrown("33: claimed", UNSUPPORTED, () -> w.claim(7));
        Check.thrown("33: no bin", ARGUMENT, () -> w.claim(8));
        Check.same("36: not what is refused", w.trials(), 2);
        w.takeBack(7);
        Check.same("36: taking back is none", w.trials(), 2);
    }

    private static void claimOfTwo() {
        Sentences.of("Terms", "it is made if the bin has 2 events or more");
        DeepiceWatch w = Watches.cube();
        Check.same("33: none of none", w.claim(5), false);
        Watches.track(w, 5, 0);
        Check.same("33: 1 of 1", w.claim(5), false);
        Watches.track(w, 5, 1000);
        Check.same("33: 2 of 2", w.claim(5), true);
        w.takeBack(5);
        Watches.track(w, 5, 2000);
        Check.same("33: 3 of 3", w.claim(5), true);
        Check.same("33: the empty bin beside it", w.claim(4), false);
    }

    private static void claimOfEightThirds() {
        Sentences.of("Terms", "and 8 times as many as it has are at least 3 times all events in bins");
        int[][] due = {{2, 5, 1}, {2, 6, 0}, {3, 7, 1}, {3, 8, 1}, {3, 9, 0}, {5, 13, 1}, {5, 14, 0}, {6, 16, 1},
            {6, 17, 0}, {24, 64, 1}, {24, 65, 0}};
        for (int[] share : due) {
            DeepiceWatch w = Watches.cube();
            Watches.tracks(w, 6, share[0], 0);
            for (int i = share[0]; i < share[1]; i++) {
                Watches.track(w, i % 6, 1000 * i);
            }
            Check.same("33: " + share[0] + " of " + share[1], w.claim(6), share[2] == 1);
        }
        DeepiceWatch w = Watches.cube();
        Watches.tracks(w, 0, 2, 0);
        Watches.tracks(w, 7, 4, 5000);
        Check.same("33: 2 of 6", w.claim(0), false);
        w.setOuter(1, true);
        Check.same("33: vetoed ones are in no bin: 2 of 2", w.claim(0), true);
        w.takeBack(0);
        for (int ball = 0; ball < 5; ball++) {
            for (int i = -1; i <= 1; i++) {
                w.flash(10 * i, 10 * i, 30, 1, 20000 + 1000 * ball);
            }
        }
        Check.same("24: with five balls", w.events(), 11);
        Check.same("33: nor are balls: 2 of 2", w.claim(0), true);
    }

    private static void claimNamesTrials() {
        Sentences.of("Terms", "It names the trials by then.");
        DeepiceWatch w = Watches.cube();
        Watches.tracks(w, 6, 2, 0);
        Watches.tracks(w, 7, 2, 5000);
        Check.same("33: the first trial of all", w.claim(6), true);
        Check.same("34: names 1", w.trialsOf(6), 1);
        w.look(0);
        w.claim(0);
        Check.same("33: the fourth", w.claim(7), true);
        Check.same("34: names 4", w.trialsOf(7), 4);
        w.look(0);
        Check.same("34: as it was", w.trialsOf(6), 1);
        Check.same("34: as it was", w.trialsOf(7), 4);
        w.takeBack(6);
        Check.same("33: claimed anew", w.claim(6), true);
        Check.same("34: names 6", w.trialsOf(6), 6);
        Check.thrown("34: one that was not made names none", NONE, () -> w.trialsOf(0));
    }

    private static void noTrialsAtFirst() {
        Sentences.of("Promise 36", "Returns how many trials there were.");
        DeepiceWatch w = Watches.cube();
        Check.same("36: none at first", w.trials(), 0);
        w.vote(5, 0);
        w.takeBack(3);
        Check.same("36: none by votes", w.trials(), 0);
        w.look(3);
        w.closeDay();
        w.wipe();
        Check.same("36: it stays with the next day", w.trials(), 1);
    }

    private static void takeBackNone() {
        Sentences.of("Promise 35", "Returns whether there was one.");
        DeepiceWatch w = Watches.cube();
        for (int bin = 0; bin < 8; bin++) {
            Check.same("35: none", w.takeBack(bin), false);
        }
        Watches.tracks(w, 0, 2, 0);
        w.claim(0);
        w.claim(1);
        Check.same("35: one that was not made", w.takeBack(1), false);
        w.closeDay();
        Check.same("35: one, also of a closed sky", w.takeBack(0), true);
        Check.same("35: none any more", w.takeBack(0), false);
    }
}
