/** The sentences on triggers, events and partners that name a boundary case, each with a test of its own. */
public final class EventEdgeTest {
    private static final Class<IndexOutOfBoundsException> INDEX = IndexOutOfBoundsException.class;

    public static void main(String[] args) {
        goodEyesAlone();
        windowIsIncluded();
        fromOneOn();
        soManyUnlikeEyes();
        atFirst();
        joinedByOnePulse();
        joinedByOthers();
        numberedByTime();
        noEvents();
        asManyAsCanBe();
        allPulsesInOne();
        anotherOneOfIt();
        anotherEye();
        reach();
        reachIsCut();
        partnersAtFirst();
        ticksApart();
        toldAnew();
        firstAndLast();
        Sentences.end();
    }

    private static DeepiceWatch trigger(int eyes, int window) {
        DeepiceWatch w = Watches.grid();
        w.setTrigger(eyes, window);
        return w;
    }

    private static void goodEyesAlone() {
        Sentences.of("Terms", "Of the pulses of good eyes, in order");
        DeepiceWatch w = trigger(3, 100);
        for (int eye = 0; eye < 5; eye++) {
            Watches.light(w, eye, 10 * eye);
        }
        Check.same("24: five of them", w.eventAt(0, 'e'), 5);
        w.setEye(0, 'l');
        Check.same("24: a loud one is not the first", w.eventAt(0, 'f'), 10);
        w.setEye(4, 'd');
        Check.same("24: a dead one is not the last", w.eventAt(0, 'l'), 30);
        Check.same("24: three are enough", w.eventAt(0, 'n'), 3);
        Check.same("24: of three eyes", w.eventAt(0, 'e'), 3);
        Check.same("24: of their charge alone", w.eventAt(0, 'q'), 765);
        w.setEye(2, 'l');
        Check.same("24: two are not", w.events(), 0);
        for (int eye = 0; eye < 5; eye++) {
            w.setEye(eye, 'l');
        }
        Check.same("24: none is good", w.events(), 0);
        Check.same("19: all are kept", w.pulses(), 5);
        for (int eye = 0; eye < 5; eye++) {
            w.setEye(eye, 'g');
        }
        Check.same("24: all are good again", w.eventAt(0, 'n'), 5);
    }

    private static void windowIsIncluded() {
        Sentences.of("Terms", "those from one on up to a window later, that included, are a trigger");
        int[] windows = {1, 2, 500, 9998, 9999};
        for (int window : windows) {
            DeepiceWatch w = trigger(2, window);
            Watches.light(w, 0, 1000);
            Watches.light(w, 1, 1000 + window);
            Check.same("24: a window later", w.events(), 1);
            Check.same("24: that included", w.eventAt(0, 'l'), 1000 + window);
            w.wipe();
            Watches.light(w, 0, 1000);
            Watches.light(w, 1, 1001 + window);
            Check.same("24: a tick later than that", w.events(), 0);
            Watches.light(w, 2, 1000);
            Check.same("24: another one", w.eventAt(0, 'n'), 2);
            Check.same("24: without the late one", w.eventAt(0, 'l'), 1000);
        }
        DeepiceWatch below = trigger(2, 100);
        below.setClock(0, -5000, 0);
        below.setClock(1, -5000, 0);
        Watches.light(below, 0, 0);
        Watches.light(below, 1, 101);
        Check.same("24: below 0 a tick too late", below.events(), 0);
        below.setTrigger(2, 101);
        Check.same("24: below 0 a window later", below.events(), 1);
    }

    private static void fromOneOn() {
        Sentences.of("Terms", "those from one on");
        DeepiceWatch w = trigger(3, 100);
        Watches.light(w, 0, 1000);
        Watches.light(w, 1, 1050);
        Watches.light(w, 2, 1101);
        Check.same("24: from the first two, from the second two", w.events(), 0);
        Watches.light(w, 3, 1150);
        Check.same("24: from the second three", w.events(), 1);
        Check.same("24: without the first", w.eventAt(0, 'f'), 1050);
        Check.same("24: up to the last", w.eventAt(0, 'l'), 1150);
        Watches.light(w, 4, 950);
        Check.same("24: from an earlier one three", w.events(), 1);
        Check.same("24: with all", w.eventAt(0, 'f'), 950);
        Check.same("24: with all", w.eventAt(0, 'n'), 5);
    }

    private static void soManyUnlikeEyes() {
        Sentences.of("Terms", "are a trigger if they are of so many unlike eyes");
        for (int eyes = 2; eyes <= 9; eyes++) {
            DeepiceWatch w = trigger(eyes, 100);
            for (int eye = 25 - eyes; eye < 24; eye++) {
                Watches.light(w, eye, 10);
                Watches.light(w, eye, 20);
            }
            Check.same("24: one eye too few, twice", w.events(), 0);
            Watches.light(w, 0, 110);
            Check.same("24: so many, of the later ones", w.events(), 1);
            Check.same("24: of the earlier ones, too", w.eventAt(0, 'f'), 10);
            Check.same("24: unlike eyes", w.eventAt(0, 'e'), eyes);
            Check.same("24: pulses", w.eventAt(0, 'n'), 2 * eyes - 1);
        }
        DeepiceWatch one = trigger(2, 9999);
        for (int i = 0; i < 9; i++) {
            Watches.light(one, 7, 10 * i);
        }
        Check.same("24: nine of one eye", one.events(), 0);
        DeepiceWatch all = trigger(9, 1);
        for (int eye = 0; eye < 24; eye++) {
            Watches.light(all, eye, 0);
        }
        Check.same("24: all eyes", all.eventAt(0, 'e'), 24);
    }

    private static void atFirst() {
        Sentences.of("Terms", "4, and 500 ticks, at first");
        DeepiceWatch w = Watches.grid();
        Watches.light(w, 0, 1000);
        Watches.light(w, 1, 1000);
        Watches.light(w, 2, 1000);
        Check.same("24: three", w.events(), 0);
        Watches.light(w, 3, 1501);
        Check.same("24: a fourth in 501", w.events(), 0);
        Watches.light(w, 4, 1500);
        Check.same("24: a fourth in 500", w.events(), 1);
        Check.same("24: four", w.eventAt(0, 'n'), 4);
        Check.same("22: 4 at first", w.setTrigger(4, 501), 4);
        Check.same("24: 501 are told", w.eventAt(0, 'n'), 5);
    }

    private static void joinedByOnePulse() {
        Sentences.of("Terms", "Triggers that share a pulse are joined");
        DeepiceWatch w = trigger(2, 100);
        Watches.light(w, 0, 0);
        Watches.light(w, 1, 100);
        Watches.light(w, 2, 201);
        Watches.light(w, 3, 301);
        Check.same("24: none is shared, though 101 are between", w.events(), 2);
        Check.same("24: the first ends", w.eventAt(0, 'l'), 100);
        Check.same("24: the second begins", w.eventAt(1, 'f'), 201);
        Watches.light(w, 1, 200);
        Check.same("24: 100 and 200 are of one eye, so no trigger", w.events(), 2);
        Check.same("24: but 200 to 301 is one with the second", w.eventAt(1, 'f'), 200);
        Watches.light(w, 4, 200);
        Check.same("24: 100 to 200 is a trigger, which shares one with each", w.events(), 1);
        w.wipe();
        Watches.light(w, 0, 0);
        Watches.light(w, 1, 100);
        Watches.light(w, 2, 200);
        Check.same("24: the pulse in the middle is shared", w.events(), 1);
        Check.same("24: three pulses, none twice", w.eventAt(0, 'n'), 3);
        Check.same("24: charge, none twice", w.eventAt(0, 'q'), 765);
        DeepiceWatch near = trigger(3, 10);
        for (int eye = 0; eye < 3; eye++) {
            Watches.light(near, eye, 1000 + 5 * eye);
            Watches.light(near, eye + 3, 1011 + 5 * eye);
        }
        Check.same("24: 1010 and 1011, but 1005 to 1015 are 1005, 1010 and 1011", near.events(), 1);
        near.setEye(4, 'l');
        near.setEye(1, 'l');
        Check.same("24: 1000 and 1010, 1011 and 1021, and 1010 to 1020 two", near.events(), 0);
    }

    private static void joinedByOthers() {
        Sentences.of("Terms", "so are those that share one with these");
        DeepiceWatch w = trigger(2, 100);
        for (int i = 0; i < 24; i++) {
            Watches.light(w, i, 100 * i);
        }
        Check.same("24: a chain of 23", w.events(), 1);
        Check.same("24: from its first", w.eventAt(0, 'f'), 0);
        Check.same("24: to its last", w.eventAt(0, 'l'), 2300);
        Check.same("24: all", w.eventAt(0, 'n'), 24);
        w.setEye(12, 'd');
        Check.same("24: broken in the middle", w.events(), 2);
        Check.same("24: the first half", w.eventAt(0, 'l'), 1100);
        Check.same("24: the second half", w.eventAt(1, 'f'), 1300);
    }

    private static void numberedByTime() {
        Sentences.of("Terms", "what is joined is an event, numbered by time from 0");
        DeepiceWatch w = trigger(2, 10);
        w.setClock(0, -9999, 0);
        w.setClock(1, -9999, 0);
        for (int i = 4; i >= 1; i--) {
            Watches.light(w, 2, 1000 * i);
            Watches.light(w, 3, 1000 * i + 10);
        }
        Watches.light(w, 0, 5000);
        Watches.light(w, 1, 5000);
        Check.same("24: five", w.events(), 5);
        Check.same("24: 0 is the earliest, which came last", w.eventAt(0, 'f'), -4999);
        for (int i = 1; i <= 4; i++) {
            Check.same("24: by time", w.eventAt(i, 'f'), 1000 * i);
        }
        Check.thrown("24: no more", INDEX, () -> w.eventAt(5, 'f'));
        w.setClock(0, 0, 0);
        w.call(0, 9999);
        w.setClock(1, 0, 0);
        w.call(1, 9999);
        Check.same("24: a call moves none if it tells no difference", w.eventAt(0, 'f'), -4999);
    }

    private static void noEvents() {
        Sentences.of("Promise 24", "Returns how many events there are.");
        DeepiceWatch w = trigger(2, 100);
        Check.same("24: no pulses", w.events(), 0);
        Watches.light(w, 0, 0);
        Check.same("24: one pulse", w.events(), 0);
        Watches.light(w, 1, 100);
        Check.same("24: two", w.events(), 1);
        w.wipe();
        Check.same("24: wiped", w.events(), 0);
    }

    /** 200 pulses, two in each event; and all days' events but 12 are lost. */
    private static void asManyAsCanBe() {
        Sentences.of("Terms", "what is joined is an event");
        DeepiceWatch w = trigger(2, 1);
        for (int i = 0; i < 200; i++) {
            Watches.light(w, i % 2, 300 * (i / 2) + i % 2);
        }
        Check.same("24: a hundred", w.events(), 100);
        Check.same("24: the first", w.eventAt(0, 'f'), 0);
        Check.same("24: the last", w.eventAt(99, 'l'), 29701);
        Check.same("25: of two pulses", w.eventAt(99, 'n'), 2);
        Check.same("27: 1000 in 1 tick, 0 and 1 about 0", w.speedOf(99, 'z'), 500000);
        Check.thrown("24: no more", INDEX, () -> w.eventAt(100, 'f'));
        Check.same("37: 12 are kept", w.closeDay(), 12);
    }

    /** 24 eyes, eight times at one tick each, and eight of them once more. */
    private static void allPulsesInOne() {
        Sentences.of("Promise 25", "'n' how many pulses it has, 'e' of how many unlike eyes, 'q' their charge, 'k' how"
                + " many are kept");
        DeepiceWatch w = trigger(9, 1);
        for (int i = 0; i < 200; i++) {
            Watches.light(w, i % 24, i / 24);
        }
        Check.same("24: one", w.events(), 1);
        Check.same("25: all", w.eventAt(0, 'n'), 200);
        Check.same("25: all eyes", w.eventAt(0, 'e'), 24);
        Check.same("25: 200 times 255", w.eventAt(0, 'q'), 51000);
        Check.same("25: all are kept", w.eventAt(0, 'k'), 200);
        Check.same("25: the last tick", w.eventAt(0, 'l'), 8);
        w.setPartner(9, 9999);
        Check.same("25: none is kept", w.eventAt(0, 'k'), 0);
        w.setPartner(10, 1);
        Check.same("25: all, along the strings", w.eventAt(0, 'k'), 200);
    }

    private static void anotherOneOfIt() {
        Sentences.of("Terms", "A pulse of an event is kept if another one of it");
        DeepiceWatch w = trigger(2, 100);
        Watches.light(w, 0, 0);
        Watches.light(w, 23, 50);
        Watches.light(w, 1, 151);
        Watches.light(w, 17, 201);
        Check.same("24: two events", w.events(), 2);
        Check.same("25: eyes 0 and 1 are near, but not of one event", w.eventAt(0, 'k'), 0);
        Check.same("25: eyes 23 and 17 are near, but not of one event", w.eventAt(1, 'k'), 0);
        w.setTrigger(2, 101);
        Check.same("24: one event", w.events(), 1);
        Check.same("25: of one event all are kept", w.eventAt(0, 'k'), 4);
        w.wipe();
        Watches.light(w, 0, 0);
        Watches.light(w, 1, 50);
        w.setEye(2, 'l');
        Watches.light(w, 2, 50);
        w.setEye(1, 'l');
        Watches.light(w, 3, 50);
        Check.same("25: 30 away, and the pulses between are of loud eyes", w.eventAt(0, 'k'), 0);
    }

    private static void anotherEye() {
        Sentences.of("Terms", "of another eye at a distance of at most the reach");
        DeepiceWatch w = Watches.eyeAt(0, 0, 0);
        w.addEye(0, 63);
        w.setTrigger(2, 1000);
        w.flash(0, 0, 0, 1, 0);
        w.flash(0, 0, 0, 1, 0);
        w.flash(0, 0, 63, 1, 0);
        Check.same("25: an eye's own pulses are no partners", w.eventAt(0, 'k'), 0);
        w.addEye(0, 63);
        w.wipe();
        w.setEye(2, 'd');
        w.flash(0, 0, 0, 1, 0);
        w.flash(0, 0, 63, 1, 0);
        w.setEye(2, 'g');
        w.setPartner(1, 1);
        Check.same("25: no other pulse is near", w.eventAt(0, 'k'), 0);
        w.setEye(1, 'd');
        w.flash(0, 0, 63, 1, 1);
        w.setEye(1, 'g');
        Check.same("25: another eye at the same place is, 0 away", w.eventAt(0, 'k'), 2);
    }

    /** Eye 0 at 0 and one as deep as the distance; from corner to corner it is 84. */
    private static void reach() {
        Sentences.of("Terms", "at a distance of at most the reach");
        for (int away : new int[] {1, 2, 19, 21, 62, 63}) {
            DeepiceWatch w = Watches.eyeAt(0, 0, 0);
            w.addEye(0, away);
            w.setTrigger(2, 1000);
            w.setEye(1, 'd');
            w.flash(0, 0, 0, 1, 0);
            w.setEye(1, 'g');
            w.setEye(0, 'd');
            w.flash(0, 0, away, 1, 0);
            w.setEye(0, 'g');
            w.setPartner(away, 300);
            Check.same("25: the reach", w.eventAt(0, 'k'), 2);
            if (away > 1) {
                w.setPartner(away - 1, 300);
                Check.same("25: 1 more than the reach", w.eventAt(0, 'k'), 0);
            }
            w.setPartner(away + 1, 300);
            Check.same("25: 1 less than the reach", w.eventAt(0, 'k'), 2);
        }
        DeepiceWatch corners = Watches.eyeAt(-20, -20, 0);
        corners.addString(20, 20);
        corners.addEye(1, 63);
        corners.setTrigger(2, 1000);
        corners.flash(-20, -20, 0, 1, 0);
        corners.flash(20, 20, 63, 1, 0);
        corners.setPartner(83, 300);
        Check.same("25: from corner to corner", corners.eventAt(0, 'k'), 0);
        corners.setPartner(84, 300);
        Check.same("25: from corner to corner", corners.eventAt(0, 'k'), 2);
        corners.setPartner(99, 300);
        Check.same("25: the greatest reach", corners.eventAt(0, 'k'), 2);
    }

    /** 6 and 2 and 20 are 440, 1 below the square of 21; 4 and 5 and 20 are 441. */
    private static void reachIsCut() {
        Sentences.of("Terms", "of another eye at a distance of at most the reach, 20 at first");
        int[][] off = {{0, 0, 20}, {6, 2, 20}, {4, 5, 20}, {0, 0, 21}};
        int[] due = {2, 2, 0, 0};
        for (int i = 0; i < off.length; i++) {
            DeepiceWatch w = Watches.eyeAt(0, 0, 0);
            w.addString(off[i][0], off[i][1]);
            w.addEye(1, off[i][2]);
            w.setTrigger(2, 1000);
            Check.same("a pulse", w.flash(0, 0, 0, 1, 0), 1);
            Check.same("a pulse", w.flash(off[i][0], off[i][1], off[i][2], 1, 0), 1);
            Check.same("25: the distance is cut, " + i, w.eventAt(0, 'k'), due[i]);
        }
    }

    private static void partnersAtFirst() {
        Sentences.of("Terms", "is at most 300 ticks apart");
        DeepiceWatch w = trigger(2, 1000);
        Watches.light(w, 0, 1000);
        Watches.light(w, 2, 1301);
        Check.same("25: 301", w.eventAt(0, 'k'), 0);
        Watches.light(w, 2, 1300);
        Check.same("25: 300 later", w.eventAt(0, 'k'), 2);
        w.wipe();
        Watches.light(w, 2, 1000);
        Watches.light(w, 0, 1300);
        Check.same("25: 300 earlier", w.eventAt(0, 'k'), 2);
        w.wipe();
        Watches.light(w, 0, 1000);
        Watches.light(w, 2, 1000);
        Check.same("25: at one tick", w.eventAt(0, 'k'), 2);
        Check.same("23: 20 at first", w.setPartner(20, 300), 20);
    }

    private static void ticksApart() {
        Sentences.of("Terms", "is at most 300 ticks apart, which can be told anew");
        for (int ticks : new int[] {1, 2, 299, 301, 5000}) {
            DeepiceWatch w = trigger(2, 9999);
            w.setPartner(20, ticks);
            Watches.light(w, 0, 100);
            Watches.light(w, 2, 101 + ticks);
            Check.same("25: a tick more, " + ticks, w.eventAt(0, 'k'), 0);
            Watches.light(w, 1, 100 + 2 * ticks + 2);
            Check.same("25: of three still none, " + ticks, w.eventAt(0, 'k'), 0);
            Watches.light(w, 4, 100 + ticks);
            Check.same("25: one that is too far away, " + ticks, w.eventAt(0, 'k'), 2);
            Watches.light(w, 2, 100 + ticks);
            Check.same("25: so many, of each side, " + ticks, w.eventAt(0, 'k'), 4);
        }
    }

    private static void toldAnew() {
        Sentences.of("Terms", "which can be told anew");
        DeepiceWatch w = trigger(2, 1000);
        Watches.light(w, 0, 0);
        Watches.light(w, 2, 300);
        Check.same("25: as at first", w.eventAt(0, 'k'), 2);
        w.setPartner(20, 299);
        Check.same("25: what is kept follows", w.eventAt(0, 'k'), 0);
        w.setPartner(19, 300);
        Check.same("25: what is kept follows", w.eventAt(0, 'k'), 0);
        w.setPartner(20, 300);
        Check.same("25: and back", w.eventAt(0, 'k'), 2);
        w.setTrigger(2, 299);
        Check.same("24: so do events", w.events(), 0);
        w.setTrigger(2, 300);
        Check.same("24: and back", w.events(), 1);
    }

    private static void firstAndLast() {
        Sentences.of("Promise 25", "'f' the mended tick of its first pulse, 'l' of its last one");
        DeepiceWatch w = trigger(2, 100);
        w.setClock(0, -1000, 0);
        Watches.light(w, 0, 1000);
        Watches.light(w, 1, 0);
        Check.same("25: at one tick, first", w.eventAt(0, 'f'), 0);
        Check.same("25: at one tick, last", w.eventAt(0, 'l'), 0);
        Watches.light(w, 0, 900);
        Watches.light(w, 1, 100);
        Check.same("25: below 0", w.eventAt(0, 'f'), -100);
        Check.same("25: above 0", w.eventAt(0, 'l'), 100);
        w.call(0, 0);
        Check.same("24: of 900 and 1000, mended", w.events(), 0);
        w.setTrigger(2, 800);
        Check.same("25: the other eye's last", w.eventAt(0, 'f'), 100);
        Check.same("25: the first one mended", w.eventAt(0, 'l'), 900);
    }
}
