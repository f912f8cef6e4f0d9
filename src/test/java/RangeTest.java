import java.util.regex.Matcher;
import java.util.regex.Pattern;

/**
 * Each range that a promise names, at its least and its greatest number and beyond either, and each set of letters.
 * What is beyond is refused with IllegalArgumentException and changes nothing.
 */
public final class RangeTest {
    private static final Class<IllegalArgumentException> ARGUMENT = IllegalArgumentException.class;
    private static final String OUT_OF_RANGE = "Throws `IllegalArgumentException` if a number is out of range";
    private static final int LAST_STEP = 124;

    private static int promise = 0;

    private interface OnNumber {
        Object on(DeepiceWatch w, int number);
    }

    private interface OnLetter {
        Object on(DeepiceWatch w, char letter);
    }

    public static void main(String[] args) {
        addString();
        addEye();
        setEye();
        setLayer();
        chargeAt();
        delayTo();
        flash();
        pass();
        passStep();
        passEachStep();
        passNoStep();
        noise();
        seed();
        setClock();
        call();
        pulseAt();
        setTrigger();
        setPartner();
        eventAt();
        placeOf();
        speedOf();
        vote();
        look();
        claim();
        trialsOf();
        takeBack();
        keptAt();
        Sentences.end();
    }

    private static void of(int number, String thrown) {
        promise = number;
        Sentences.of("Promise " + number, thrown);
    }

    /** The range is read from the document's words; due is what the call answers at the least and at the greatest. */
    private static void range(String words, Watches.Maker maker, OnNumber call, Object atLeast, Object atMost) {
        Matcher ends = Pattern.compile("(-?\\d+) to (-?\\d+)").matcher(words);
        Check.holds("no range: " + words, ends.find());
        range(words, Integer.parseInt(ends.group(1)), Integer.parseInt(ends.group(2)), maker, call, atLeast, atMost);
    }

    private static void range(String words, int least, int most, Watches.Maker maker, OnNumber call,
            Object atLeast, Object atMost) {
        Sentences.of("Promise " + promise, words);
        String what = promise + ": " + words + ": ";
        Check.alike(what + least, call.on(maker.make(), least), atLeast);
        Check.alike(what + most, call.on(maker.make(), most), atMost);
        for (int beyond : new int[] {least - 1, most + 1, Integer.MIN_VALUE, Integer.MAX_VALUE}) {
            Twins.refused(what + beyond, ARGUMENT, maker, w -> call.on(w, beyond));
            Twins.refused(what + beyond + " if furnished", ARGUMENT, Watches::furnished, w -> call.on(w, beyond));
        }
    }

    /** Each letter has its answer on a furnished watch; each other sign is refused. */
    private static void letters(String words, String letters, OnLetter call, Object... due) {
        Sentences.of("Promise " + promise, words);
        String what = promise + ": " + words + ": ";
        for (int i = 0; i < due.length; i++) {
            char letter = letters.charAt(i);
            Check.holds(words + " does not name " + letter, words.contains("'" + letter + "'"));
            Check.alike(what + letter, call.on(Watches.furnished(), letter), due[i]);
            Twins.refused(what + "far beyond " + letter, ARGUMENT, Watches::furnished,
                    w -> call.on(w, (char) (letter + 256)));
        }
        DeepiceWatch w = Watches.furnished();
        for (char other = 0; other < 128; other++) {
            char sign = other;
            if (letters.indexOf(other) < 0) {
                Check.thrown(what + (int) other, ARGUMENT, () -> call.on(w, sign));
            }
        }
        Check.thrown(what + "the last sign", ARGUMENT, () -> call.on(w, (char) 65535));
        Twins.alike(what + "other signs change nothing", w, Watches.furnished());
    }

    // ---- the field, the ice

    private static DeepiceWatch oneEye() {
        return Watches.eyeAt(0, 0, 10);
    }

    /** 0 at (-20, -20, 0), and 40 away it is 400 + 10 * 1600 / 100. */
    private static void addString() {
        of(2, OUT_OF_RANGE);
        range("`x`: -20 to 20", DeepiceWatch::new, (w, x) -> {
            w.addEye(w.addString(x, -20), 0);
            return w.delayTo(0, -20, -20, 0);
        }, 0, 560);
        range("`y`: -20 to 20", DeepiceWatch::new, (w, y) -> {
            w.addEye(w.addString(-20, y), 0);
            return w.delayTo(0, -20, -20, 0);
        }, 0, 560);
        Twins.refused("2: both", ARGUMENT, Watches::furnished, w -> w.addString(21, 21));
    }

    /** 63 deep it is 630 + 10 * 3969 / 100. */
    private static void addEye() {
        of(4, OUT_OF_RANGE);
        range("`z`: the depth, 0 to 63", RangeTest::oneEye, (w, z) -> w.delayTo(w.addEye(0, z), 0, 0, 0), 0, 1026);
    }

    private static void setEye() {
        of(5, "Throws `IllegalArgumentException` if there is no such state");
        letters("`state`: 'g', 'd' or 'l'", "gdl", (w, state) -> {
            w.setEye(0, state);
            return w.setEye(0, 'g');
        }, 'g', 'd', 'l');
    }

    /** 1000 / 10 = 100 if nothing is eaten; with 20 hundredths 80, 64, 51. */
    private static void setLayer() {
        of(7, OUT_OF_RANGE);
        range("`from`: the depth, 0 to 63", DeepiceWatch::new, (w, from) -> {
            w.setLayer(from, 77, 3);
            return w.scatteringAt(from - 1) + " " + w.scatteringAt(from);
        }, "10 77", "10 77");
        range("`scattering`: 0 to 99", DeepiceWatch::new, (w, scattering) -> {
            w.setLayer(20, scattering, 3);
            return w.scatteringAt(20);
        }, 0, 99);
        range("`eaten`: 0 to 20", RangeTest::oneEye, (w, eaten) -> {
            w.setLayer(0, 10, eaten);
            return w.chargeAt(0, 3, 0, 10, 1);
        }, 100, 51);
        Twins.refused("7: a layer that is there", ARGUMENT, Watches::furnished, w -> w.setLayer(20, 12, 21));
    }

    // ---- light

    /** An eye in a corner of the field, in ice that eats nothing. */
    private static DeepiceWatch corner() {
        return Watches.clearEyeAt(-20, -20, 0);
    }

    /** An eye in a corner of the field, in ice of which 5 hundredths are eaten. */
    private static DeepiceWatch dimCorner() {
        return Watches.eyeAt(-20, -20, 0);
    }

    /** From 40 away 100000 / 1601 = 62, from 63 away 100000 / 3970 = 25, and from the other corner 178 by 84 cuts. */
    private static void chargeAt() {
        of(10, OUT_OF_RANGE);
        range("`x`: -20 to 20", RangeTest::corner, (w, x) -> w.chargeAt(0, x, -20, 0, 100), 255, 62);
        range("`y`: -20 to 20", RangeTest::corner, (w, y) -> w.chargeAt(0, -20, y, 0, 100), 255, 62);
        range("`z`: the depth, 0 to 63", RangeTest::corner, (w, z) -> w.chargeAt(0, -20, -20, z, 100), 255, 25);
        range("`strength`: 1 to 100000", RangeTest::dimCorner, (w, s) -> w.chargeAt(0, 20, 20, 63, s), 0, 178);
    }

    private static void delayTo() {
        of(11, OUT_OF_RANGE);
        range("`x`: -20 to 20", RangeTest::corner, (w, x) -> w.delayTo(0, x, -20, 0), 0, 560);
        range("`y`: -20 to 20", RangeTest::corner, (w, y) -> w.delayTo(0, -20, y, 0), 0, 560);
        range("`z`: the depth, 0 to 63", RangeTest::corner, (w, z) -> w.delayTo(0, -20, -20, z), 0, 1026);
    }

    /** The charges of pulses that came, as kept, -1 without one. */
    private static long charge(DeepiceWatch w, int kept) {
        return kept == 1 ? w.pulseAt(0, 'q') : -1;
    }

    private static void flash() {
        of(12, OUT_OF_RANGE);
        range("`x`: -20 to 20", RangeTest::corner, (w, x) -> charge(w, w.flash(x, -20, 0, 100, 0)), 255, 62);
        range("`y`: -20 to 20", RangeTest::corner, (w, y) -> charge(w, w.flash(-20, y, 0, 100, 0)), 255, 62);
        range("`z`: the depth, 0 to 63", RangeTest::corner,
                (w, z) -> charge(w, w.flash(-20, -20, z, 100, 0)), 255, 25);
        range("`strength`: 1 to 100000", RangeTest::dimCorner,
                (w, s) -> charge(w, w.flash(20, 20, 63, s, 0)), -1, 178);
        range("`tick`: 0 to 99999", RangeTest::corner, (w, tick) -> {
            w.flash(-20, -20, 0, 1, tick);
            return w.pulseAt(0, 't');
        }, 0, 99999);
    }

    /**
     * A step down adds 100000 / 1602 = 62 to 62, and 100000 / 4097 = 24 to 25. From (20, 0, 0) past (0, 0, 20) 41 times
     * light comes with 2 on 19 places and with 1 on 22, of which the first two are 1.
     */
    private static void pass() {
        of(13, OUT_OF_RANGE + ", or the step is none");
        range("`x`: -20 to 20", RangeTest::corner, (w, x) -> charge(w, w.pass(x, -20, 0, 63, 1, 100, 0)), 255, 124);
        range("`y`: -20 to 20", RangeTest::corner, (w, y) -> charge(w, w.pass(-20, y, 0, 63, 1, 100, 0)), 255, 124);
        range("`z`: the depth, 0 to 63", RangeTest::corner,
                (w, z) -> charge(w, w.pass(-20, -20, z, 63, 1, 100, 0)), 255, 49);
        range("`steps`: 1 to 40", () -> Watches.clearEyeAt(0, 0, 20),
                (w, steps) -> charge(w, w.pass(20, 0, 0, 63, steps, 1, 0)), 2, 60);
        range("`strength`: 1 to 100000", RangeTest::murkyCorner,
                (w, s) -> charge(w, w.pass(20, 20, 63, 63, 1, s, 0)), -1, 131);
        range("`tick`: 0 to 99999", RangeTest::corner, (w, tick) -> {
            w.pass(-20, -20, 0, 63, 1, 1, tick);
            return w.pulseAt(0, 't');
        }, 0, 99999);
    }

    /** From the other corner 68 by 84 cuts, and 63 from a step below it by 85. */
    private static DeepiceWatch murkyCorner() {
        DeepiceWatch w = dimCorner();
        w.setLayer(0, 10, 6);
        return w;
    }

    /** From (4, 4, 4) off 1000 / 49 = 20, then 1000 / 13 = 76 two nearer on each axis or 1000 / 109 = 9 two farther. */
    private static void passStep() {
        promise = 13;
        range("`step`: 25 times the step in x and 2, and 5 times that in y and 2, and that in z and 2", 0, LAST_STEP,
                () -> Watches.clearEyeAt(0, 0, 30), (w, step) -> charge(w, w.pass(4, 4, 34, step, 1, 1, 0)), 96, 29);
    }

    /** All of them, from (4, 5, 7) off, where it is 1000 / 91. */
    private static void passEachStep() {
        Sentences.of("Promise 13", "25 times the step in x and 2, and 5 times that in y and 2, and that in z and 2");
        DeepiceWatch w = Watches.clearEyeAt(0, 0, 30);
        int step = 0;
        for (int x = -2; x <= 2; x++) {
            for (int y = -2; y <= 2; y++) {
                for (int z = -2; z <= 2; z++) {
                    if (step != 62) {
                        int square = (4 + x) * (4 + x) + (5 + y) * (5 + y) + (7 + z) * (7 + z);
                        w.pass(4, 5, 37, step, 1, 1, 0);
                        Check.same("13: step " + step, w.pulseAt(0, 'q'), 10 + 1000 / (1 + square));
                        w.wipe();
                    }
                    step++;
                }
            }
        }
    }

    private static void passNoStep() {
        of(13, "or the step is none");
        Twins.refused("13: no step", ARGUMENT, Watches::furnished, w -> w.pass(0, 0, 10, 62, 1, 1, 0));
        Check.same("13: a step less", corner().pass(-20, -20, 0, 61, 1, 1, 0), 1);
        Check.same("13: a step more", corner().pass(-20, -20, 0, 63, 1, 1, 0), 1);
    }

    private static void noise() {
        of(14, OUT_OF_RANGE);
        range("`many`: 1 to 30", RangeTest::oneEye, (w, many) -> w.noise(many) + " " + w.pulses(), "1 1", "30 30");
    }

    private static void seed() {
        of(15, OUT_OF_RANGE);
        range("`z`: 1 to 2147483646", DeepiceWatch::new, (w, z) -> w.seed(z) + " " + w.seed(5), "1 1", "1 2147483646");
        Twins.refused("15: 0", ARGUMENT, Watches::furnished, w -> w.seed(0));
    }

    // ---- clocks, pulses

    /** 9999 millionths of 100000 are 999.9, cut to 999. */
    private static void setClock() {
        of(16, OUT_OF_RANGE);
        range("`offset`: -9999 to 9999", RangeTest::oneEye, (w, offset) -> {
            w.setClock(0, offset, 0);
            return w.call(0, 0);
        }, -9999, 9999);
        range("`drift`: -9999 to 9999", RangeTest::oneEye, (w, drift) -> {
            w.setClock(0, 0, drift);
            return w.call(0, 100000);
        }, 99001, 100999);
        Twins.refused("16: of an eye with calls", ARGUMENT, Watches::furnished, w -> w.setClock(5, 0, 10000));
    }

    private static void call() {
        of(17, OUT_OF_RANGE);
        range("`tick`: the true one, 0 to 999999", RangeTest::oneEye, (w, tick) -> w.call(0, tick), 0, 999999);
        Twins.refused("17: behind other calls", ARGUMENT, Watches::furnished, w -> w.call(5, 1000000));
    }

    /** Light at 500 comes to the clock of 7 and 1000 millionths as 507; 500 * 10000 / 10010 = 499 is its true tick. */
    private static void pulseAt() {
        of(20, "Throws `IllegalArgumentException` if there is no such thing");
        letters("`what`: 'e' its eye, 't' its mended tick, 'o' its own one, 'q' its charge", "etoq",
                (w, what) -> w.pulseAt(0, what), 5, 499, 507, 255);
    }

    // ---- events

    private static void setTrigger() {
        of(22, OUT_OF_RANGE);
        range("`eyes`: 2 to 9", Watches::grid, (w, eyes) -> {
            w.setTrigger(eyes, 1);
            for (int i = 1; i < eyes; i++) {
                Watches.light(w, i, 0);
            }
            int fewer = w.events();
            Watches.light(w, 0, 0);
            return fewer + " " + w.events();
        }, "0 1", "0 1");
        range("`window`: 1 to 9999", Watches::grid, (w, window) -> {
            w.setTrigger(2, window);
            Watches.light(w, 0, 0);
            Watches.light(w, 1, window + 1);
            int longer = w.events();
            Watches.light(w, 2, window);
            return longer + " " + w.eventAt(0, 'f');
        }, "0 0", "0 0");
    }

    /** The farthest two eyes of all are 84 apart. */
    private static void setPartner() {
        of(23, OUT_OF_RANGE);
        range("`reach`: 1 to 99", RangeTest::nearAndFar, (w, reach) -> {
            w.setPartner(reach, 300);
            return w.eventAt(0, 'k');
        }, 2, 4);
        range("`ticks`: 1 to 9999", RangeTest::longEvent, (w, ticks) -> {
            w.setPartner(20, ticks);
            Watches.light(w, 1, ticks + 1);
            long later = w.eventAt(0, 'k');
            Watches.light(w, 1, ticks);
            return later + " " + w.eventAt(0, 'k');
        }, "0 2", "0 2");
    }

    /** Pulses of eyes at (-20, -20, 0) and 1 and 3 below it, and at (20, 20, 63), of which only the first two are near. */
    private static DeepiceWatch nearAndFar() {
        DeepiceWatch w = dimCorner();
        w.addEye(0, 1);
        w.addEye(0, 3);
        w.addString(20, 20);
        w.addEye(1, 63);
        w.setTrigger(4, 300);
        w.flash(-20, -20, 1, 1, 0);
        w.flash(20, 20, 63, 1, 0);
        return w;
    }

    /** Pulses of eye 0 at 0 and of eye 23, far from all, at 5000, with which up to 14999 all is one event. */
    private static DeepiceWatch longEvent() {
        DeepiceWatch w = Watches.grid();
        w.setTrigger(2, 9999);
        Watches.light(w, 0, 0);
        Watches.light(w, 23, 5000);
        return w;
    }

    /** The first event has eye 0 at 1000 and eye 1 at 1090. */
    private static void eventAt() {
        of(25, "Throws `IllegalArgumentException` if there is no such thing");
        letters("`what`: 'f' the mended tick of its first pulse, 'l' of its last one, 'n' how many pulses it has, 'e' of"
                + " how many unlike eyes, 'q' their charge, 'k' how many are kept", "flneqk",
                (w, what) -> w.eventAt(0, what), 1000, 1090, 2, 2, 510, 2);
    }

    /** The mean of 10 and 20. */
    private static void placeOf() {
        of(26, "Throws `IllegalArgumentException` if there is no such axis");
        letters("`axis`: 'x', 'y' or 'z'", "xyz", (w, axis) -> w.placeOf(0, axis), 0, 0, 1500);
    }

    /** 1000 hundredths in 90 ticks. */
    private static void speedOf() {
        of(27, "Throws `IllegalArgumentException` if there is no such axis");
        letters("`axis`: 'x', 'y' or 'z'", "xyz", (w, axis) -> w.speedOf(0, axis), 0, 0, 11111);
    }

    // ---- the sky

    private static void vote() {
        of(31, OUT_OF_RANGE);
        range("`ayes`: 0 to 99", DeepiceWatch::new, (w, ayes) -> w.vote(ayes, 98), false, true);
        range("`noes`: 0 to 99", DeepiceWatch::new, (w, noes) -> w.vote(1, noes), true, false);
        Twins.refused("31: both", ARGUMENT, DeepiceWatch::new, w -> w.vote(100, 100));
        Twins.refused("31: more than less than none", ARGUMENT, DeepiceWatch::new, w -> w.vote(0, -1));
    }

    /** Two tracks are in bin 0, three in bin 7. */
    private static DeepiceWatch ends() {
        DeepiceWatch w = Watches.cube();
        Watches.tracks(w, 0, 2, 0);
        Watches.tracks(w, 7, 3, 5000);
        return w;
    }

    private static void look() {
        of(32, OUT_OF_RANGE);
        range("`bin`: the bin, 0 to 7", RangeTest::ends, (w, bin) -> w.look(bin), 2, 3);
    }

    private static void claim() {
        of(33, OUT_OF_RANGE);
        range("`bin`: the bin, 0 to 7", RangeTest::ends, (w, bin) -> w.claim(bin), true, true);
    }

    private static DeepiceWatch claimed() {
        DeepiceWatch w = ends();
        w.claim(0);
        w.claim(7);
        return w;
    }

    private static void trialsOf() {
        of(34, OUT_OF_RANGE);
        range("`bin`: the bin, 0 to 7", RangeTest::claimed, (w, bin) -> w.trialsOf(bin), 1, 2);
    }

    private static void takeBack() {
        of(35, OUT_OF_RANGE);
        range("`bin`: the bin, 0 to 7", RangeTest::claimed, (w, bin) -> w.takeBack(bin), true, true);
    }

    // ---- days

    /**
     * The track from 40 up to 20 was no veto. Its mean place is 30, between the layers of 4 hundredths; 255 times 101
     * are 25755, which ten times 100 by 96 makes 38733; twice that and 255 are 77721, of which 77 are thousands.
     */
    private static void keptAt() {
        of(39, "Throws `IllegalArgumentException` if there is no such thing");
        letters("`what`: 'f' the mended tick of its first pulse, 'e' its energy, 0 without pulses kept, 'v' 1 if it was"
                + " vetoed, else 0, 'i' the version of the ice of its energy", "fevi",
                (w, what) -> w.keptAt(0, 0, what), 1000, 77, 0, 2);
    }
}
