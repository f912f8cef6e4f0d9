/** What the calls of promises 22 to 44 do and answer, each sentence of them that names no boundary case. */
public final class EventCallTest {
    public static void main(String[] args) {
        setTrigger();
        setPartner();
        events();
        eventAt();
        placeOf();
        speedOf();
        kindOf();
        energyOf();
        isVetoed();
        vote();
        look();
        claim();
        trialsOf();
        takeBack();
        trials();
        closeDay();
        days();
        keptAt();
        keptKind();
        redo();
        checksum();
        loudShare();
        meanCharge();
        Sentences.end();
    }

    /**
     * Three events: a track down a string with 255 each, a ball with 85 and 255, and two pulses of 255 that are too far
     * apart to be kept.
     */
    private static DeepiceWatch three() {
        DeepiceWatch w = Watches.grid();
        w.setTrigger(2, 200);
        for (int i = 0; i < 3; i++) {
            Watches.light(w, 7 + i, 1000 + 100 * i);
        }
        Watches.dim(w, 13, 3000);
        Watches.light(w, 14, 3000);
        Watches.light(w, 0, 5000);
        Watches.light(w, 21, 5100);
        return w;
    }

    private static void setTrigger() {
        Sentences.of("Promise 22", "Tells what a trigger is.");
        Sentences.of("Promise 22", "Returns the eyes before.");
        DeepiceWatch w = three();
        Check.same("22: 2 eyes in 200 before", w.setTrigger(3, 200), 2);
        Check.same("24: one of 3 eyes in 200", w.events(), 1);
        Check.same("22: the eyes, not the window", w.setTrigger(3, 199), 3);
        Check.same("24: none of 3 eyes in 199", w.events(), 0);
        Check.same("22: 3 eyes before", w.setTrigger(2, 99), 3);
        Check.same("24: one of 2 eyes in 99", w.events(), 1);
        Check.same("22: 2 eyes before", w.setTrigger(7, 4100), 2);
        Check.same("24: one of all 7", w.eventAt(0, 'n'), 7);
    }

    private static void setPartner() {
        Sentences.of("Promise 23", "Tells what partners are.");
        Sentences.of("Promise 23", "Returns the reach before.");
        DeepiceWatch w = three();
        Check.same("25: none of the third", w.eventAt(2, 'k'), 0);
        Check.same("23: 20 before", w.setPartner(41, 100), 20);
        Check.same("25: the root of 1700 is 41", w.eventAt(2, 'k'), 2);
        Check.same("23: the reach, not the ticks", w.setPartner(41, 99), 41);
        Check.same("25: too late", w.eventAt(2, 'k'), 0);
        Check.same("25: the second is at one tick", w.eventAt(1, 'k'), 2);
        Check.same("23: 41 before", w.setPartner(9, 100), 41);
        Check.same("25: too far", w.eventAt(1, 'k'), 0);
    }

    private static void events() {
        Sentences.of("Promise 24", "Returns how many.");
        DeepiceWatch w = Watches.grid();
        w.setTrigger(2, 100);
        for (int i = 0; i < 20; i++) {
            Check.same("24: so many", w.events(), i);
            Watches.light(w, i, 1000 * i);
            Check.same("24: none by one pulse", w.events(), i);
            Watches.light(w, i + 1, 1000 * i + 50);
        }
        Check.same("24: asking makes none", w.events(), 20);
    }

    private static void eventAt() {
        Sentences.of("Promise 25", "Returns something of an event.");
        Sentences.of("Promise 25", "`event`: the event");
        Sentences.of("Promise 25", "Returns the number.");
        DeepiceWatch w = three();
        Watches.dim(w, 13, 3050);
        long[][] due = {{1000, 1200, 3, 3, 765, 3}, {3000, 3050, 3, 2, 425, 3}, {5000, 5100, 2, 2, 510, 0}};
        for (int event = 0; event < 3; event++) {
            for (int thing = 0; thing < 6; thing++) {
                char what = "flneqk".charAt(thing);
                Check.same("25: " + what + " of " + event, w.eventAt(event, what), due[event][thing]);
            }
        }
    }

    /** 100 times 85 times 10 and 255 times 20 by 340 is 1750. */
    private static void placeOf() {
        Sentences.of("Promise 26", "Returns the mean place of an event.");
        Sentences.of("Promise 26", "`event`: the event");
        Sentences.of("Promise 26", "Returns the hundredths.");
        DeepiceWatch w = three();
        int[][] due = {{2000, 0, 2000}, {0, 2000, 1750}};
        for (int event = 0; event < 2; event++) {
            for (int axis = 0; axis < 3; axis++) {
                char name = "xyz".charAt(axis);
                Check.same("26: " + name + " of " + event, w.placeOf(event, name), due[event][axis]);
            }
        }
        w.setPartner(99, 100);
        Check.same("26: x of two strings", w.placeOf(2, 'x'), 1000);
        Check.same("26: y of two strings", w.placeOf(2, 'y'), 1000);
        Check.same("26: z of 0 and 30", w.placeOf(2, 'z'), 1500);
    }

    private static void speedOf() {
        Sentences.of("Promise 27", "Returns the speed of an event.");
        Sentences.of("Promise 27", "`event`: the event");
        Sentences.of("Promise 27", "Returns the speed.");
        DeepiceWatch w = three();
        w.setPartner(99, 100);
        int[][] due = {{0, 0, 10000}, {0, 0, 0}, {20000, 20000, 30000}};
        for (int event = 0; event < 3; event++) {
            for (int axis = 0; axis < 3; axis++) {
                char name = "xyz".charAt(axis);
                Check.same("27: " + name + " of " + event, w.speedOf(event, name), due[event][axis]);
            }
        }
    }

    private static void kindOf() {
        Sentences.of("Promise 28", "Returns the kind of an event.");
        Sentences.of("Promise 28", "`event`: the event");
        Sentences.of("Promise 28", "Returns 't' or 'b'.");
        DeepiceWatch w = three();
        w.setPartner(99, 100);
        String due = "tbt";
        for (int event = 0; event < 3; event++) {
            Check.same("28: of " + event, w.kindOf(event), due.charAt(event));
        }
    }

    /** From the middle eye to itself 255, and to the others, 10 away, twice 255 * 101 = 25755. */
    private static void energyOf() {
        Sentences.of("Promise 29", "Returns the energy of an event.");
        Sentences.of("Promise 29", "`event`: the event");
        Sentences.of("Promise 29", "Returns the energy.");
        DeepiceWatch w = three();
        Check.same("29: 255 and twice 43007 are 86269", w.energyOf(0), 86);
        w.setLayer(0, 10, 0);
        Check.same("29: in clear ice 255 and twice 25755 are 51765", w.energyOf(0), 51);
        Check.same("29: from 17, 85 * 50 and 255 * 10 are 6800", w.energyOf(1), 6);
    }

    private static void isVetoed() {
        Sentences.of("Promise 30", "Tells whether an event is vetoed");
        Sentences.of("Promise 30", "`event`: the event");
        Sentences.of("Promise 30", "Returns true if so.");
        DeepiceWatch w = three();
        Check.same("30: a track down", w.isVetoed(0), true);
        Check.same("30: a ball", w.isVetoed(1), false);
        Check.same("30: without pulses kept", w.isVetoed(2), false);
        w.setOuter(2, true);
        Check.same("30: the ball's string is an outer one", w.isVetoed(1), true);
        Check.same("30: the other's is not", w.isVetoed(2), false);
        w.setOuter(0, true);
        Check.same("30: the other's is, too", w.isVetoed(2), true);
    }

    // ---- the sky

    private static void vote() {
        Sentences.of("Promise 31", "Votes.");
        Sentences.of("Promise 31", "Returns whether the sky is open then.");
        DeepiceWatch w = new DeepiceWatch();
        Check.same("31: not by 3 to 4", w.vote(3, 4), false);
        Check.same("31: by 4 to 3", w.vote(4, 3), true);
        Check.same("32: it is open", w.look(0), 0);
        Check.same("31: open also by 3 to 4", w.vote(3, 4), true);
        w.closeDay();
        Check.same("31: closed, and not by 3 to 4", w.vote(3, 4), false);
        Check.same("36: votes are no trials", w.trials(), 1);
    }

    private static void look() {
        Sentences.of("Promise 32", "Looks at a bin.");
        DeepiceWatch w = Watches.cube();
        for (int bin = 0; bin < 8; bin++) {
            Watches.tracks(w, bin, bin, 9000 * bin);
        }
        for (int bin = 7; bin >= 0; bin--) {
            Check.same("32: as many as its number", w.look(bin), bin);
        }
        Check.same("36: each a trial", w.trials(), 8);
        Check.same("19: it takes no pulse", w.pulses(), 84);
    }

    private static void claim() {
        Sentences.of("Promise 33", "Claims a bin.");
        Sentences.of("Promise 33", "Returns whether the claim is made.");
        DeepiceWatch w = Watches.cube();
        Watches.tracks(w, 2, 1, 0);
        Watches.tracks(w, 6, 4, 10000);
        Check.same("33: 1 of 5", w.claim(2), false);
        Check.same("33: 4 of 5", w.claim(6), true);
        Check.same("35: not claimed", w.takeBack(2), false);
        Check.same("35: claimed", w.takeBack(6), true);
    }

    private static void trialsOf() {
        Sentences.of("Promise 34", "Returns the trials that a claim names.");
        Sentences.of("Promise 34", "Returns the trials.");
        DeepiceWatch w = Watches.cube();
        Watches.tracks(w, 2, 2, 0);
        Watches.tracks(w, 6, 2, 10000);
        for (int i = 0; i < 5; i++) {
            w.look(i);
        }
        w.claim(6);
        w.look(7);
        w.claim(2);
        Check.same("34: 5 looks and its own", w.trialsOf(6), 6);
        Check.same("34: 2 more", w.trialsOf(2), 8);
        Check.same("34: also if asked twice", w.trialsOf(6), 6);
        Check.same("36: asking is no trial", w.trials(), 8);
    }

    private static void takeBack() {
        Sentences.of("Promise 35", "Takes a claim back.");
        DeepiceWatch w = Watches.cube();
        Watches.tracks(w, 2, 2, 0);
        Watches.tracks(w, 6, 2, 10000);
        w.claim(2);
        w.claim(6);
        Check.same("35: there was one", w.takeBack(2), true);
        Check.same("35: there is none", w.takeBack(2), false);
        Check.same("34: the other one stays", w.trialsOf(6), 2);
        Check.same("33: it can be claimed again", w.claim(2), true);
        Check.same("34: by a later trial", w.trialsOf(2), 3);
    }

    private static void trials() {
        Sentences.of("Promise 36", "Returns how many.");
        DeepiceWatch w = Watches.cube();
        for (int i = 0; i < 40; i++) {
            Check.same("36: so many", w.trials(), i);
            if (i % 3 == 0) {
                w.claim(i % 8);
            } else {
                w.look(i % 8);
            }
        }
    }

    // ---- days, figures

    private static void closeDay() {
        Sentences.of("Promise 37", "Closes the day.");
        Sentences.of("Promise 37", "Returns how many events are kept of it.");
        DeepiceWatch w = three();
        w.vote(1, 0);
        Check.same("37: three", w.closeDay(), 3);
        Check.same("38: a day", w.days(), 1);
        Check.same("31: its sky is closed", w.vote(0, 0), false);
        Check.same("19: its pulses are gone", w.pulses(), 0);
        Watches.light(w, 0, 5000);
        Watches.light(w, 1, 5000);
        Check.same("37: one of the next day", w.closeDay(), 1);
        Check.same("39: of the first day as before", w.keptAt(0, 2, 'f'), 5000);
    }

    private static void days() {
        Sentences.of("Promise 38", "Returns how many.");
        DeepiceWatch w = three();
        for (int i = 0; i < 6; i++) {
            Check.same("38: so many", w.days(), i);
            w.closeDay();
        }
        Check.same("38: all six", w.days(), 6);
    }

    /** Those three, the ball on an outer string, and by clear ice a track up. */
    private static DeepiceWatch twoDays() {
        DeepiceWatch w = three();
        w.setOuter(2, true);
        w.closeDay();
        Watches.light(w, 9, 700);
        Watches.light(w, 8, 800);
        Watches.light(w, 7, 900);
        w.setLayer(0, 10, 0);
        w.closeDay();
        return w;
    }

    private static void keptAt() {
        Sentences.of("Promise 39", "Returns something of an event that was kept.");
        Sentences.of("Promise 39", "`day`: the day");
        Sentences.of("Promise 39", "`index`: the event, from 0");
        Sentences.of("Promise 39", "Returns the number.");
        DeepiceWatch w = twoDays();
        int ofBall = sentFrom(7, 85 * 50) + sentFrom(3, 255 * 10);
        long[][] due = {{1000, 86, 1, 0}, {3000, ofBall / 1000, 1, 0}, {5000, 0, 0, 0}, {700, 51, 0, 1}};
        for (int i = 0; i < 4; i++) {
            for (int thing = 0; thing < 4; thing++) {
                char what = "fevi".charAt(thing);
                Check.same("39: " + what + " of " + i, w.keptAt(i / 3, i % 3, what), due[i][thing]);
            }
        }
    }

    /** As often as the distance says it is taken 100 times and divided by 95. */
    private static int sentFrom(int distance, int charge) {
        int sent = charge;
        for (int i = 0; i < distance; i++) {
            sent = sent * 100 / 95;
        }
        return sent;
    }

    private static void keptKind() {
        Sentences.of("Promise 40", "Returns the kind of an event that was kept.");
        Sentences.of("Promise 40", "`day`: the day");
        Sentences.of("Promise 40", "`index`: the event, from 0");
        DeepiceWatch w = twoDays();
        String due = "tb-t";
        for (int i = 0; i < 4; i++) {
            Check.same("40: of " + i, w.keptKind(i / 3, i % 3), due.charAt(i));
        }
    }

    private static void redo() {
        Sentences.of("Promise 41", "Does the energies of a day again.");
        Sentences.of("Promise 41", "`day`: the day");
        DeepiceWatch w = twoDays();
        w.setLayer(0, 10, 20);
        Check.same("41: the one of the second day", w.redo(1), 1);
        Check.same("39: 255 and twice 239847", w.keptAt(1, 0, 'e'), 479);
        Check.same("39: by the ice of now", w.keptAt(1, 0, 'i'), 2);
        Check.same("39: the first day's is as it was", w.keptAt(0, 0, 'e'), 86);
        Check.same("39: by the ice of then", w.keptAt(0, 0, 'i'), 0);
        Check.same("41: two of the first day", w.redo(0), 2);
        Check.same("39: its energy", w.keptAt(0, 0, 'e'), 479);
    }

    private static void checksum() {
        Sentences.of("Promise 42", "Returns a sum over the watch.");
        Sentences.of("Promise 42", "then 31 times itself plus how many events there are, likewise the trials and the"
                + " days.");
        DeepiceWatch w = Watches.grid();
        w.setTrigger(2, 200);
        w.closeDay();
        w.closeDay();
        w.vote(1, 0);
        for (int i = 0; i < 5; i++) {
            w.look(i);
        }
        Check.same("42: no pulses, no events, 5 trials, 2 days", w.checksum(), 7L * 29791 + 5 * 31 + 2);
        Watches.light(w, 2, 1100);
        Watches.dim(w, 1, 1000);
        long sum = 7;
        for (long part : new long[] {1000, 85, 1100, 255, 1, 5, 2}) {
            sum = 31 * sum + part;
        }
        Check.same("42: two pulses, an event, 5 trials, 2 days", w.checksum(), sum);
    }

    private static void loudShare() {
        Sentences.of("Promise 43", "Returns the share of eyes that are loud.");
        DeepiceWatch w = Watches.grid();
        for (int eye = 0; eye < 24; eye += 4) {
            w.setEye(eye, 'l');
            w.setEye(eye + 1, 'd');
        }
        Check.same("43: 6 of 24", w.loudShare(), 0.25);
        w.setEye(3, 'l');
        Check.same("43: 7 of 24", w.loudShare(), 7f / 24f);
    }

    private static void meanCharge() {
        Sentences.of("Promise 44", "Returns the mean charge of pulses.");
        DeepiceWatch w = Watches.grid();
        Watches.dim(w, 3, 500);
        Check.same("44: 85", w.meanCharge(), 85);
        Watches.light(w, 4, 500);
        Check.same("44: 85 and 255", w.meanCharge(), 170);
        Watches.dim(w, 5, 500);
        Check.same("44: 425 by 3", w.meanCharge(), 425.0 / 3.0);
    }
}
