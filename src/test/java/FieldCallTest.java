/** What the calls of promises 2 to 21 do and answer, each sentence of them that names no boundary case. */
public final class FieldCallTest {
    private static final int DOWN = 63;

    public static void main(String[] args) {
        addString();
        setOuter();
        addEye();
        setEye();
        distance();
        setLayer();
        scatteringAt();
        version();
        chargeAt();
        delayTo();
        flash();
        pass();
        noise();
        seed();
        setClock();
        call();
        mended();
        pulses();
        pulseAt();
        wipe();
        Sentences.end();
    }

    // ---- the field, the ice

    private static void addString() {
        Sentences.of("Promise 2", "Adds a string.");
        Sentences.of("Promise 2", "Returns its number.");
        int[][] places = {{-3, 4}, {5, -6}, {-3, 4}, {0, 0}};
        DeepiceWatch w = new DeepiceWatch();
        for (int i = 0; i < places.length; i++) {
            int x = places[i][0];
            int y = places[i][1];
            Check.same("2: its number", w.addString(x, y), i);
            Check.same("2: an eye on it", w.addEye(i, 10 + i), i);
            Check.same("2: is there", w.delayTo(i, x, y, 10 + i), 0);
            Check.same("2: not beside it on x", w.delayTo(i, x + 3, y, 10 + i), 30);
            Check.same("2: not beside it on y", w.delayTo(i, x, y - 3, 10 + i), 30);
        }
    }

    private static void setOuter() {
        Sentences.of("Promise 3", "Sets whether a string is an outer one.");
        Sentences.of("Promise 3", "`string`: the string");
        Sentences.of("Promise 3", "`is`: whether it is an outer one");
        Sentences.of("Promise 3", "Returns whether it was.");
        DeepiceWatch w = Watches.grid();
        w.setTrigger(2, 100);
        for (int string = 0; string < 4; string++) {
            Watches.light(w, 6 * string, 1000 * string);
            Watches.light(w, 6 * string + 1, 1000 * string);
        }
        for (int string = 0; string < 4; string++) {
            Check.same("3: it was not", w.setOuter(string, true), false);
            for (int event = 0; event < 4; event++) {
                Check.same("3: string " + string + " is, event " + event, w.isVetoed(event), event == string);
            }
            Check.same("3: it was", w.setOuter(string, true), true);
            Check.same("3: it was still", w.setOuter(string, false), true);
            Check.same("3: it is not", w.isVetoed(string), false);
        }
    }

    private static void addEye() {
        Sentences.of("Promise 4", "Adds an eye.");
        Sentences.of("Promise 4", "`string`: the string");
        Sentences.of("Promise 4", "Returns its number.");
        DeepiceWatch w = new DeepiceWatch();
        w.addString(-10, 7);
        w.addString(9, 8);
        Check.same("4: the first, on the second string", w.addEye(1, 33), 0);
        Check.same("4: the second, on the first string", w.addEye(0, 44), 1);
        Check.same("4: the third, on it, too", w.addEye(0, 55), 2);
        Check.same("4: where the first is", w.delayTo(0, 9, 8, 33), 0);
        Check.same("4: where the second is", w.delayTo(1, -10, 7, 44), 0);
        Check.same("4: where the third is", w.delayTo(2, -10, 7, 55), 0);
        Check.same("12: it has pulses", w.flash(-10, 7, 55, 1, 0), 1);
        Check.same("12: of its number", w.pulseAt(0, 'e'), 2);
    }

    private static void setEye() {
        Sentences.of("Promise 5", "Sets how an eye is.");
        Sentences.of("Promise 5", "`eye`: the eye");
        Sentences.of("Promise 5", "Returns how it was.");
        DeepiceWatch w = Watches.grid();
        Check.same("5: it was good", w.setEye(3, 'd'), 'g');
        Check.same("12: a dead one has no pulse", w.flash(0, 0, 30, 1, 0), 0);
        Check.same("12: the next one has", w.flash(0, 0, 40, 1, 0), 1);
        Check.same("5: it was dead", w.setEye(3, 'l'), 'd');
        Check.same("12: a loud one has a pulse", w.flash(0, 0, 30, 1, 0), 1);
        Check.same("43: one of 24 is loud", w.loudShare(), 1f / 24f);
        w.setTrigger(2, 100);
        Check.same("24: it makes no event", w.events(), 0);
        Check.same("5: it was loud", w.setEye(3, 'g'), 'l');
        Check.same("24: a good one does", w.events(), 1);
    }

    private static void distance() {
        Sentences.of("Promise 6", "Returns the distance of two eyes.");
        Sentences.of("Promise 6", "`eye`: the eye");
        Sentences.of("Promise 6", "Returns the distance.");
        DeepiceWatch w = Watches.grid();
        Check.same("6: along a string", w.distance(1, 4), 30);
        Check.same("6: beside it on x", w.distance(1, 7), 20);
        Check.same("6: beside it on y", w.distance(1, 13), 20);
        Check.same("6: across, the root of 800", w.distance(1, 19), 28);
        Check.same("6: from another one, the root of 1300", w.distance(0, 9), 36);
        Check.same("6: from another one, the root of 2500 and 800", w.distance(5, 18), 57);
    }

    private static void setLayer() {
        Sentences.of("Promise 7", "Tells a layer.");
        Sentences.of("Promise 7", "Returns how many there are.");
        DeepiceWatch w = Watches.eyeAt(0, 0, 30);
        Check.same("7: one", w.setLayer(25, 60, 10), 1);
        Check.same("8: from there on", w.scatteringAt(25), 60);
        Check.same("8: not above it", w.scatteringAt(24), 10);
        Check.same("11: 40 and 9.6", w.delayTo(0, 4, 0, 30), 49);
        Check.same("10: 200, 180, 162", w.chargeAt(0, 2, 0, 30, 1), 162);
        Check.same("7: two", w.setLayer(30, 20, 20), 2);
        Check.same("11: 40 and 3.2", w.delayTo(0, 4, 0, 30), 43);
        Check.same("10: 200, 160, 128", w.chargeAt(0, 2, 0, 30, 1), 128);
        Check.same("8: the other one is as it was", w.scatteringAt(29), 60);
    }

    private static void scatteringAt() {
        Sentences.of("Promise 8", "Returns the scattering of a depth.");
        Sentences.of("Promise 8", "Returns the scattering.");
        DeepiceWatch w = new DeepiceWatch();
        for (int i = 5; i >= 0; i--) {
            w.setLayer(10 * i, 90 - 7 * i, i);
        }
        for (int depth = 0; depth <= 63; depth++) {
            Check.same("8: of " + depth, w.scatteringAt(depth), 90 - 7 * Math.min(5, depth / 10));
        }
    }

    private static void version() {
        Sentences.of("Promise 9", "Returns the version of the ice.");
        Sentences.of("Promise 9", "Returns the version.");
        DeepiceWatch w = new DeepiceWatch();
        for (int i = 0; i < 100; i++) {
            Check.same("9: so often told", w.version(), i);
            Check.same("9: also if asked twice", w.version(), i);
            w.setLayer(i % 6, 5, 5);
        }
    }

    // ---- light

    private static void chargeAt() {
        Sentences.of("Promise 10", "Returns the charge with which light would come to an eye.");
        Sentences.of("Promise 10", "`eye`: the eye");
        Sentences.of("Promise 10", "Returns the charge.");
        DeepiceWatch w = Watches.eyeAt(0, 0, 30);
        w.addEye(0, 33);
        w.addString(0, 5);
        w.addEye(1, 30);
        Check.same("10: at the first, 255 of 3000", w.chargeAt(0, 0, 0, 30, 3), 255);
        Check.same("10: 3 away, 300, 285, 270, 256", w.chargeAt(1, 0, 0, 30, 3), 255);
        Check.same("10: 3 away with less, 100, 95, 90, 85", w.chargeAt(1, 0, 0, 30, 1), 85);
        Check.same("10: 5 away, 115, 109, 103, 97, 92, 87", w.chargeAt(2, 0, 0, 30, 3), 87);
        Check.same("10: it would come, it does not", w.pulses(), 0);
        Check.same("12: as it comes", w.flash(0, 0, 30, 3, 0), 3);
        Check.same("20: the third's", w.pulseAt(2, 'q'), 87);
    }

    private static void delayTo() {
        Sentences.of("Promise 11", "Returns how much later light would come to an eye.");
        Sentences.of("Promise 11", "`eye`: the eye");
        Sentences.of("Promise 11", "Returns the ticks.");
        DeepiceWatch w = Watches.eyeAt(0, 0, 30);
        w.addEye(0, 35);
        w.addString(8, 0);
        w.addEye(1, 30);
        int[] due = {0, 52, 86};
        for (int eye = 0; eye < 3; eye++) {
            Check.same("11: 0, 50 and 2.5, 80 and 6.4", w.delayTo(eye, 0, 0, 30), due[eye]);
        }
        Check.same("11: from elsewhere", w.delayTo(2, 8, 0, 31), 10);
        w.flash(0, 0, 30, 100, 700);
        for (int i = 0; i < 3; i++) {
            Check.same("12: as it comes", w.pulseAt(i, 't'), 700 + due[i]);
        }
    }

    private static void flash() {
        Sentences.of("Promise 12", "Lets a ball of light be.");
        Sentences.of("Promise 12", "Returns how many pulses are kept of it.");
        DeepiceWatch w = Watches.grid();
        Check.same("12: one", w.flash(20, 0, 20, 1, 400), 1);
        Check.same("20: its eye", w.pulseAt(0, 'e'), 8);
        Check.same("20: its tick", w.pulseAt(0, 't'), 400);
        Check.same("12: three, of 5000", w.flash(20, 0, 20, 5, 800), 3);
        long[] eyes = {8, 7, 9};
        long[] ticks = {800, 910, 910};
        long[] charges = {255, 26, 26};
        for (int i = 0; i < 3; i++) {
            Check.same("20: eye", w.pulseAt(i + 1, 'e'), eyes[i]);
            Check.same("20: 110 later", w.pulseAt(i + 1, 't'), ticks[i]);
            Check.same("20: 49, 46, 43, 40, 38, 36, 34, 32, 30, 28, 26", w.pulseAt(i + 1, 'q'), charges[i]);
        }
        Check.same("12: all of the string and more", w.flash(20, 0, 20, 100000, 9000), 24);
        Check.same("19: in all", w.pulses(), 28);
    }

    private static void pass() {
        Sentences.of("Promise 13", "Lets a passer go.");
        Sentences.of("Promise 13", "Returns how many pulses are kept of it.");
        DeepiceWatch w = Watches.grid();
        Check.same("13: past all eyes of a string", w.pass(20, 20, 0, DOWN, 40, 1, 100), 5);
        for (int i = 0; i < 5; i++) {
            Check.same("20: eye by eye", w.pulseAt(i, 'e'), 18 + i);
            Check.same("20: at the eyes", w.pulseAt(i, 'q'), 255);
            Check.same("20: 5 a step", w.pulseAt(i, 't'), 100 + 50 * i);
        }
        Check.same("13: along x from one eye to another", w.pass(0, 0, 30, 87, 20, 1, 5000), 2);
        Check.same("20: the first", w.pulseAt(5, 'e'), 3);
        Check.same("20: the other", w.pulseAt(6, 'e'), 9);
        Check.same("20: 20 steps later", w.pulseAt(6, 't'), 5100);
        Check.same("19: in all", w.pulses(), 7);
    }

    private static void noise() {
        Sentences.of("Promise 14", "Returns how many pulses are kept of it.");
        DeepiceWatch w = Watches.grid();
        int[] many = {1, 7, 30};
        int all = 0;
        for (int pulses : many) {
            Check.same("14: all of them", w.noise(pulses), pulses);
            all += pulses;
            Check.same("19: in all", w.pulses(), all);
        }
        for (int eye = 0; eye < 12; eye++) {
            w.setEye(eye, 'd');
        }
        int kept = w.noise(30);
        Check.holds("14: some, as half of them are dead: " + kept, kept > 0 && kept < 30);
        Check.same("19: in all", w.pulses(), all + kept);
    }

    private static void seed() {
        Sentences.of("Promise 15", "Sets z.");
        Sentences.of("Promise 15", "Returns the one before.");
        DeepiceWatch w = Watches.grid();
        w.seed(12345);
        w.noise(30);
        long after = w.seed(12345);
        long sum = w.checksum();
        w.wipe();
        w.noise(30);
        Check.same("15: the same noise again", w.checksum(), sum);
        Check.same("15: the same z behind it", w.seed(777), after);
        Check.same("15: the one before", w.seed(1), 777);
    }

    // ---- clocks, pulses

    private static void setClock() {
        Sentences.of("Promise 16", "Sets the clock of an eye.");
        Sentences.of("Promise 16", "`eye`: the eye");
        Sentences.of("Promise 16", "Returns the offset before.");
        DeepiceWatch w = Watches.grid();
        for (int eye = 0; eye < 24; eye++) {
            Check.same("16: 0 before", w.setClock(eye, 10 * eye, 100), 0);
        }
        for (int eye = 0; eye < 24; eye++) {
            Check.same("17: 10 times its number and 50", w.call(eye, 500000), 500050 + 10 * eye);
            Check.same("16: the offset before, not the drift", w.setClock(eye, -eye, -200), 10 * eye);
            Check.same("17: less its number, and less 100", w.call(eye, 500000), 499900 - eye);
        }
    }

    private static void call() {
        Sentences.of("Promise 17", "Calls an eye.");
        Sentences.of("Promise 17", "`eye`: the eye");
        Sentences.of("Promise 17", "Returns its own tick.");
        DeepiceWatch w = Watches.grid();
        w.setClock(4, 250, 2000);
        Check.same("17: 1000, 250 and 2", w.call(4, 1000), 1252);
        Check.same("17: another one", w.call(5, 1000), 1000);
        Check.same("18: it is known", w.mended(4, 1252), 1000);
        Check.same("18: of the other one, too", w.mended(5, 1252), 1252);
        Check.same("17: 2000, 250 and 4", w.call(4, 2000), 2254);
        Check.same("18: both are known: 501 of 1002", w.mended(4, 1753), 1500);
    }

    private static void mended() {
        Sentences.of("Promise 18", "Returns the mended tick of an own one.");
        Sentences.of("Promise 18", "`eye`: the eye");
        Sentences.of("Promise 18", "Returns the mended tick.");
        DeepiceWatch w = Watches.grid();
        for (int eye = 0; eye < 3; eye++) {
            w.setClock(eye, 100 * (eye + 1), 0);
        }
        w.call(0, 0);
        w.call(1, 50);
        Check.same("18: 100 less", w.mended(0, 700), 600);
        Check.same("18: 200 less", w.mended(1, 700), 500);
        Check.same("18: not called", w.mended(2, 700), 700);
        Check.same("18: as that of a pulse", w.flash(0, 0, 10, 1, 345), 1);
        Check.same("20: own", w.pulseAt(0, 'o'), 545);
        Check.same("20: mended", w.pulseAt(0, 't'), w.mended(1, 545));
        Check.same("18: 200 less", w.mended(1, 545), 345);
    }

    private static void pulses() {
        Sentences.of("Promise 19", "Returns how many.");
        DeepiceWatch w = Watches.grid();
        for (int i = 0; i < 20; i++) {
            Check.same("19: so many", w.pulses(), i);
            Watches.light(w, i, 100 * i);
        }
        Check.same("19: asking takes none", w.pulses(), 20);
    }

    private static void pulseAt() {
        Sentences.of("Promise 20", "Returns something of a pulse.");
        Sentences.of("Promise 20", "`index`: the index in the order, from 0");
        Sentences.of("Promise 20", "Returns the number.");
        DeepiceWatch w = Watches.grid();
        w.setClock(9, 40, 0);
        w.call(9, 0);
        Watches.dim(w, 9, 3000);
        Watches.light(w, 2, 2000);
        Watches.light(w, 17, 4000);
        long[][] due = {{2, 2000, 2000, 255}, {9, 3000, 3040, 85}, {17, 4000, 4000, 255}};
        for (int i = 0; i < 3; i++) {
            for (int thing = 0; thing < 4; thing++) {
                char what = "etoq".charAt(thing);
                Check.same("20: " + what + " of " + i, w.pulseAt(i, what), due[i][thing]);
            }
        }
    }

    private static void wipe() {
        Sentences.of("Promise 21", "Returns how many there were.");
        DeepiceWatch w = Watches.grid();
        for (int many = 0; many < 24; many += 5) {
            for (int i = 0; i < many; i++) {
                Watches.light(w, i, 500);
            }
            Check.same("21: so many", w.wipe(), many);
            Check.same("21: none are left", w.pulses(), 0);
        }
        w.noise(2);
        Check.same("21: new ones are kept", w.pulses(), 2);
    }
}
