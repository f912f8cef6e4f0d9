/** The sentences on fits, energies and vetoes that name a boundary case, each with a test of its own. */
public final class FitEdgeTest {
    public static void main(String[] args) {
        keptPulsesAlone();
        asOftenAsItsCharge();
        meanTickIsCut();
        meanPlaceIsCut();
        meanPlaceBelowZero();
        speedByMoments();
        speedIsCut();
        speedBelowOneIsNone();
        speedOfOneTick();
        trackOrBall();
        trackByAllAxes();
        energyIsAThousandth();
        energyFromWholePlace();
        energyDividedBy();
        energyIsCutEachTime();
        energyAtNoDistance();
        vetoedByFirstPulse();
        vetoedAsItGoesDown();
        vetoedWithoutPulsesKept();
        Sentences.end();
    }

    private static DeepiceWatch grid() {
        DeepiceWatch w = Watches.grid();
        w.setTrigger(2, 500);
        return w;
    }

    /** Eyes 1 and 2 are 10 apart; eye 5 is 30 from the nearer one. */
    private static void keptPulsesAlone() {
        Sentences.of("Terms", "All is by the pulses of an event that are kept");
        DeepiceWatch w = grid();
        Watches.light(w, 1, 1000);
        Watches.light(w, 2, 1200);
        Watches.light(w, 5, 1300);
        w.setPartner(10, 300);
        Check.same("25: two of three", w.eventAt(0, 'k'), 2);
        Check.same("26: of 10 and 20", w.placeOf(0, 'z'), 1500);
        Check.same("27: 1000 in 200", w.speedOf(0, 'z'), 5000);
        Check.same("28: a track", w.kindOf(0), 't');
        Check.same("29: twice 6630, 6978, 7345, 7731, 8137, 8565", w.energyOf(0), 17);
        w.setPartner(30, 300);
        Check.same("25: all three", w.eventAt(0, 'k'), 3);
        Check.same("26: of 10, 20 and 50", w.placeOf(0, 'z'), 2666);
        w.setPartner(10, 199);
        Check.same("25: none", w.eventAt(0, 'k'), 0);
        Check.same("25: its charge is that of all", w.eventAt(0, 'q'), 765);
    }

    private static void asOftenAsItsCharge() {
        Sentences.of("Terms", "each as often as its charge");
        DeepiceWatch w = grid();
        Watches.dim(w, 1, 1000);
        Watches.light(w, 2, 1000);
        Check.same("26: 85 times 10 and 255 times 20 by 340", w.placeOf(0, 'z'), 1750);
        Watches.dim(w, 1, 1000);
        Watches.dim(w, 1, 1000);
        Check.same("26: thrice 85 is 255", w.placeOf(0, 'z'), 1500);
        w.wipe();
        Watches.light(w, 1, 1000);
        Check.same("a pulse of charge 1", w.flash(9, 0, 24, 1, 1100 - 98), 1);
        Check.same("25: charge", w.eventAt(0, 'q'), 256);
        Check.same("26: 255 times 10 and 1 time 20 by 256: 1003.9", w.placeOf(0, 'z'), 1003);
        Check.same("27: 1000 * (100 * 997) / 10000", w.speedOf(0, 'z'), 9970);
    }

    /** Of ticks 100 (85) and 101 (255) the mean is 100.75; of -9969 (85) and -9968 (255) it is -9968.25. */
    private static void meanTickIsCut() {
        Sentences.of("Terms", "The mean tick is cut");
        DeepiceWatch w = grid();
        Watches.dim(w, 1, 100);
        Watches.light(w, 2, 101);
        Check.same("27: 100.75 is 100: 255 * 250 / 255", w.speedOf(0, 'z'), 250000);
        w.wipe();
        Watches.light(w, 1, 100);
        Check.same("a pulse of charge 1", w.flash(9, 0, 24, 1, 355 - 98), 1);
        Check.same("27: 100 and 255 / 256 is 100: 255 * 997 / 255 / 255", w.speedOf(0, 'z'), 3909);
        w.wipe();
        w.setClock(1, -9999, 0);
        w.setClock(2, -9968, 0);
        Watches.dim(w, 1, 30);
        Watches.light(w, 2, 0);
        Check.same("25: below 0", w.eventAt(0, 'f'), -9969);
        Check.same("27: -9968.25 is -9968: 85 * 750 / 85", w.speedOf(0, 'z'), 750000);
        w.wipe();
        w.setClock(2, -9970, 0);
        Watches.dim(w, 1, 30);
        Watches.light(w, 2, 0);
        Check.same("25: the other one first", w.eventAt(0, 'f'), -9970);
        Check.same("27: -9969.75 is -9969: 255 * 250 / 255", w.speedOf(0, 'z'), -250000);
        w.wipe();
        w.setClock(2, -1, 0);
        w.setClock(1, -30, 0);
        Watches.dim(w, 1, 30);
        Watches.light(w, 2, 0);
        Check.same("25: -1 and 0", w.eventAt(0, 'l'), 0);
        Check.same("27: -0.75 is 0: 255 * -1 * 250 / 255", w.speedOf(0, 'z'), -250000);
        w.wipe();
        w.setClock(1, 0, 0);
        w.setClock(2, 0, 0);
        Watches.light(w, 1, 100);
        Watches.light(w, 2, 102);
        Check.same("27: 101 is whole: 1000 in 2", w.speedOf(0, 'z'), 500000);
    }

    /** One eye with 85 is 1 to each side on x and y, two with 255 are at 0. */
    private static DeepiceWatch aside(int x, int y) {
        DeepiceWatch w = new DeepiceWatch();
        w.addEye(w.addString(x, y), 10);
        w.addEye(w.addString(0, 0), 20);
        w.addEye(1, 30);
        w.setTrigger(3, 500);
        Check.same("a pulse", w.flash(4 * x, y, 10, 1, 970), 1);
        Check.same("a pulse", w.flash(0, 0, 20, 1, 1000), 1);
        Check.same("a pulse", w.flash(0, 0, 30, 1, 1000), 1);
        return w;
    }

    private static void meanPlaceIsCut() {
        Sentences.of("Terms", "the mean place is told in hundredths, each cut toward 0");
        DeepiceWatch w = aside(1, 1);
        Check.same("25: charge", w.eventAt(0, 'q'), 595);
        Check.same("26: 8500 / 595 = 14.3", w.placeOf(0, 'x'), 14);
        Check.same("26: 8500 / 595 = 14.3", w.placeOf(0, 'y'), 14);
        Check.same("26: 1360000 / 595 = 2285.7", w.placeOf(0, 'z'), 2285);
        DeepiceWatch whole = Watches.two(1, 20, 63, 100);
        Check.same("26: a half is whole in hundredths", whole.placeOf(0, 'x'), 50);
        Check.same("26: whole", whole.placeOf(0, 'y'), 1000);
        Check.same("26: half of 63", whole.placeOf(0, 'z'), 3150);
    }

    private static void meanPlaceBelowZero() {
        Sentences.of("Terms", "each cut toward 0");
        DeepiceWatch w = aside(-1, -2);
        Check.same("26: -8500 / 595 = -14.3", w.placeOf(0, 'x'), -14);
        Check.same("26: -17000 / 595 = -28.6", w.placeOf(0, 'y'), -28);
        DeepiceWatch one = Watches.slow(0, -1, 18);
        Check.same("26: -300 / 768 = -0.4", one.placeOf(0, 'x'), 0);
        Check.same("26: 0", one.placeOf(0, 'y'), 0);
        DeepiceWatch whole = Watches.two(-1, -20, 63, 100);
        Check.same("26: a half below 0", whole.placeOf(0, 'x'), -50);
        Check.same("26: whole", whole.placeOf(0, 'y'), -1000);
    }

    /**
     * Ticks 1000, 1100, 1200 and 1350 with 85, 255, 255 and 85: 786250 by 680 is 1156.25, cut to 1156. Each eye is 10 on
     * z behind the last one, but the third, which is 20 to a side and as deep as the second.
     */
    private static void speedByMoments() {
        Sentences.of("Terms", "The speed on an axis is 1000 times the sum of charges times the differences of ticks from"
                + " the mean one times the differences of places, in hundredths, from the mean one");
        DeepiceWatch w = Watches.grid();
        w.setTrigger(4, 500);
        int[] eyes = {0, 1, 7, 2};
        int[] ticks = {1000, 1100, 1200, 1350};
        int[] charges = {85, 255, 255, 85};
        for (int i = 0; i < 4; i++) {
            if (charges[i] == 85) {
                Watches.dim(w, eyes[i], ticks[i]);
            } else {
                Watches.light(w, eyes[i], ticks[i]);
            }
        }
        Check.same("25: all are kept", w.eventAt(0, 'k'), 4);
        int[][] places = {{0, 0, 2000, 0}, {0, 0, 0, 0}, {0, 1000, 1000, 2000}};
        int[] means = {750, 0, 1000};
        long spread = 0;
        for (int i = 0; i < 4; i++) {
            spread += (long) charges[i] * (ticks[i] - 1156) * (ticks[i] - 1156);
        }
        for (int axis = 0; axis < 3; axis++) {
            char name = "xyz".charAt(axis);
            Check.same("26: mean " + name, w.placeOf(0, name), means[axis]);
            long sum = 0;
            for (int i = 0; i < 4; i++) {
                sum += (long) charges[i] * (ticks[i] - 1156) * (places[axis][i] - means[axis]);
            }
            Check.same("27: speed " + name, w.speedOf(0, name), 1000 * sum / spread);
        }
        Check.same("27: 22312500000 by 6560980", w.speedOf(0, 'x'), 3400);
        Check.same("27: 29750000000 by 6560980", w.speedOf(0, 'z'), 4534);
    }

    private static void speedIsCut() {
        Sentences.of("Terms", "divided by the sum of charges times the squares of those of ticks, cut toward 0");
        DeepiceWatch w = Watches.two(7, -7, 11, 300);
        Check.same("27: 700000 / 300 = 2333.3", w.speedOf(0, 'x'), 2333);
        Check.same("27: -700000 / 300 = -2333.3", w.speedOf(0, 'y'), -2333);
        Check.same("27: 1100000 / 300 = 3666.7", w.speedOf(0, 'z'), 3666);
        DeepiceWatch back = Watches.two(7, -7, 11, -300);
        Check.same("27: back", back.speedOf(0, 'x'), -2333);
        Check.same("27: back", back.speedOf(0, 'y'), 2333);
        Check.same("27: back", back.speedOf(0, 'z'), -3666);
        DeepiceWatch whole = Watches.two(6, -6, 12, 300);
        Check.same("27: whole", whole.speedOf(0, 'x'), 2000);
        Check.same("27: whole", whole.speedOf(0, 'y'), -2000);
        Check.same("27: whole", whole.speedOf(0, 'z'), 4000);
    }

    private static void speedBelowOneIsNone() {
        Sentences.of("Terms", "cut toward 0, 0 if that is 0");
        for (int axis = 0; axis < 3; axis++) {
            char name = "xyz".charAt(axis);
            Check.same("27: 0.9998 on " + name, Watches.slow(axis, 1, 17).speedOf(0, name), 0);
            Check.same("27: 1.06 on " + name, Watches.slow(axis, 1, 18).speedOf(0, name), 1);
            Check.same("27: -0.9998 on " + name, Watches.slow(axis, -1, 17).speedOf(0, name), 0);
            Check.same("27: -1.06 on " + name, Watches.slow(axis, -1, 18).speedOf(0, name), -1);
            Check.same("27: early, 18 before a mean of 1099.9, which is 1099", Watches.slow(axis, 1, -19)
                    .speedOf(0, name), -1);
            Check.same("27: early, 17 before it", Watches.slow(axis, 1, -18).speedOf(0, name), 0);
        }
    }

    private static void speedOfOneTick() {
        Sentences.of("Terms", "0 if that is 0");
        DeepiceWatch w = grid();
        for (int eye = 0; eye < 24; eye++) {
            Watches.light(w, eye, 1000);
        }
        for (char axis : "xyz".toCharArray()) {
            Check.same("27: all at one tick", w.speedOf(0, axis), 0);
        }
        Check.same("28: a ball", w.kindOf(0), 'b');
        Watches.light(w, 23, 1001);
        Check.same("27: one behind it: 255 * 5000 - 2500", w.speedOf(0, 'z'), 2400000);
        Check.same("28: a track", w.kindOf(0), 't');
    }

    private static void trackOrBall() {
        Sentences.of("Terms", "An event is a track 't' if the squares of its three speeds are 25000000 or more together,"
                + " else a ball 'b'.");
        int[][] axes = {{1, 0, 0}, {0, 1, 0}, {0, 0, 1}};
        for (int[] on : axes) {
            Check.same("28: 5000", Watches.two(10 * on[0], 10 * on[1], 10 * on[2], 200).kindOf(0), 't');
            Check.same("28: -5000", Watches.two(10 * on[0], 10 * on[1], 10 * on[2], -200).kindOf(0), 't');
            Check.same("28: 4975", Watches.two(10 * on[0], 10 * on[1], 10 * on[2], 201).kindOf(0), 'b');
            Check.same("28: -4975", Watches.two(10 * on[0], 10 * on[1], 10 * on[2], -201).kindOf(0), 'b');
        }
        Check.same("28: 4996", Watches.two(0, 0, 63, 1261).kindOf(0), 'b');
        Check.same("28: 5000", Watches.two(0, 0, 63, 1260).kindOf(0), 't');
        Check.same("28: 0", Watches.two(0, 0, 63, 0).kindOf(0), 'b');
    }

    private static void trackByAllAxes() {
        Sentences.of("Terms", "the squares of its three speeds are 25000000 or more together");
        Check.same("28: 3000 and 4000 are 25000000", Watches.two(6, 8, 0, 200).kindOf(0), 't');
        Check.same("28: -3000 and 4000, too", Watches.two(-6, 8, 0, 200).kindOf(0), 't');
        Check.same("28: 3000 and -4000 on z, too", Watches.two(6, 0, 8, 200).kindOf(0), 't');
        DeepiceWatch all = Watches.two(9, 12, 20, 500);
        Check.same("27: 1800", all.speedOf(0, 'x'), 1800);
        Check.same("27: 2400", all.speedOf(0, 'y'), 2400);
        Check.same("27: 4000", all.speedOf(0, 'z'), 4000);
        Check.same("28: are 25000000", all.kindOf(0), 't');
        DeepiceWatch below = Watches.two(11, -11, 35, 766);
        Check.same("27: 1436", below.speedOf(0, 'x'), 1436);
        Check.same("27: -1436", below.speedOf(0, 'y'), -1436);
        Check.same("27: 4569", below.speedOf(0, 'z'), 4569);
        Check.same("28: are 24999953", below.kindOf(0), 'b');
        Check.same("28: and the other way", Watches.two(11, -11, 35, -766).kindOf(0), 'b');
    }

    /** Two eyes at one place, so that the energy is that of the charges: 999, then 1000. */
    private static void energyIsAThousandth() {
        Sentences.of("Terms", "The energy is a thousandth, cut, of the sum, over pulses");
        DeepiceWatch w = Watches.eyeAt(0, 0, 10);
        w.addEye(0, 10);
        w.setTrigger(2, 500);
        w.setEye(1, 'd');
        for (int away : new int[] {0, 0, 0, 2, 5, 7}) {
            Check.same("a pulse", w.flash(0, 0, 10 + away, 1, 1000), 1);
        }
        w.setEye(1, 'g');
        w.setEye(0, 'd');
        w.flash(0, 0, 17, 1, 1000);
        w.setEye(0, 'g');
        Check.same("25: 255 * 3, 180, 28, 13 and 13", w.eventAt(0, 'q'), 999);
        Check.same("29: 0.999", w.energyOf(0), 0);
        w.setEye(1, 'd');
        Check.same("a pulse of charge 1", w.flash(9, 0, 14, 1, 1000), 1);
        w.setEye(1, 'g');
        Check.same("25: 1 more", w.eventAt(0, 'q'), 1000);
        Check.same("25: all are kept", w.eventAt(0, 'k'), 8);
        Check.same("29: 1", w.energyOf(0), 1);
        w.setEye(1, 'd');
        for (int i = 0; i < 4; i++) {
            w.flash(0, 0, 10, 1, 1000);
        }
        w.setEye(1, 'g');
        Check.same("29: 2020", w.energyOf(0), 2);
    }

    /**
     * One eye with 85 is 19 to a side, one with 255 at 0: the mean is 4.75 to that side, in whole ones 4. In the
     * murkiest ice 85 * 226 then become 546 thousands by 15 times 5 / 4, and 255 * 17 become 10 by 4 times.
     */
    private static void energyFromWholePlace() {
        Sentences.of("Terms", "from the mean place, in whole ones, cut toward 0, to the eye");
        int[][] sides = {{19, 0}, {-19, 0}, {0, 19}, {0, -19}};
        for (int[] side : sides) {
            DeepiceWatch w = new DeepiceWatch();
            w.addEye(w.addString(side[0], side[1]), 30);
            w.addEye(w.addString(0, 0), 30);
            w.setTrigger(2, 500);
            Check.same("a pulse", w.flash(side[0], side[1], 33, 1, 970), 1);
            Check.same("a pulse", w.flash(0, 0, 30, 1, 1000), 1);
            Check.same("25: charge", w.eventAt(0, 'q'), 340);
            Check.same("26: 4.75 to a side", w.placeOf(0, side[0] != 0 ? 'x' : 'y'), (side[0] + side[1]) / 19 * 475);
            w.setLayer(0, 10, 20);
            Check.same("29: 556521", w.energyOf(0), 556);
        }
        wholePlaces();
        DeepiceWatch half = Watches.two(1, 1, 63, 0);
        half.setLayer(0, 10, 0);
        Check.same("26: half of 63", half.placeOf(0, 'z'), 3150);
        Check.same("29: from (0, 0, 31): 255 * 962 and 255 * 1027", half.energyOf(0), (255 * 962 + 255 * 1027) / 1000);
    }

    /**
     * In the murkiest ice. Of 10 it is 5, and twice 255 * 26 = 6630 become 20228 by five times. Four pulses of 255 at 6
     * and of 1 at 4 have a mean of 5.99, which is 5: 255 * 2 = 510 is 637 and 2 is 2.
     */
    private static void wholePlaces() {
        for (int axis = 0; axis < 3; axis++) {
            int[] on = {0, 0, 0};
            on[axis] = 1;
            DeepiceWatch whole = Watches.two(10 * on[0], 10 * on[1], 10 * on[2], 0);
            Check.same("26: whole", whole.placeOf(0, "xyz".charAt(axis)), 500);
            whole.setLayer(0, 10, 20);
            Check.same("29: from 5", whole.energyOf(0), 40);
            DeepiceWatch w = new DeepiceWatch();
            w.addEye(w.addString(6 * on[0], 6 * on[1]), 6 * on[2]);
            w.addEye(w.addString(4 * on[0], 4 * on[1]), 4 * on[2]);
            w.setTrigger(2, 500);
            for (int i = 0; i < 4; i++) {
                w.setEye(1, 'd');
                w.flash(6 * on[0], 6 * on[1], 6 * on[2], 1, 1000);
                w.setEye(1, 'g');
                w.setEye(0, 'd');
                int x = 4 * on[0] + (axis == 0 ? 0 : 9);
                int y = 4 * on[1] + (axis == 1 ? 0 : axis == 0 ? 9 : 4);
                int z = 4 * on[2] + (axis == 2 ? 0 : 4);
                Check.same("a pulse of charge 1", w.flash(x, y, z, 1, 1000), 1);
                w.setEye(0, 'g');
            }
            Check.same("25: charge", w.eventAt(0, 'q'), 1024);
            Check.same("26: 6 less 2 / 256", w.placeOf(0, "xyz".charAt(axis)), 599);
            w.setLayer(0, 10, 20);
            Check.same("29: from 5, four times 639", w.energyOf(0), 2);
        }
    }

    private static void energyDividedBy() {
        Sentences.of("Terms", "which then, as often as the distance says, is taken 100 times and divided by 100 less"
                + " the hundredths that are eaten");
        DeepiceWatch w = Watches.two(0, 0, 20, 0);
        w.setLayer(0, 10, 0);
        Check.same("29: nothing is eaten: 255 * 101 twice", w.energyOf(0), 51);
        w.setLayer(0, 10, 1);
        Check.same("29: by 99: 28472 twice", w.energyOf(0), 56);
        w.setLayer(0, 10, 5);
        Check.same("29: by 95: 43007 twice", w.energyOf(0), 86);
        w.setLayer(0, 10, 20);
        Check.same("29: by 80: 239847 twice", w.energyOf(0), 479);
        DeepiceWatch most = new DeepiceWatch();
        most.addEye(most.addString(-20, -20), 0);
        most.addEye(most.addString(20, 20), 63);
        most.setTrigger(2, 500);
        most.setPartner(99, 500);
        most.flash(-20, -20, 0, 1, 0);
        most.flash(20, 20, 63, 1, 0);
        most.setLayer(0, 10, 0);
        Check.same("29: from (0, 0, 31): 255 * (1 + 1761) and 255 * (1 + 1824)", most.energyOf(0), 914);
    }

    /** 9 pulses of charge 1 on each side, 10 from the mean place: 101, 106, 111 .. 163 by cuts, 168.7 without. */
    private static void energyIsCutEachTime() {
        Sentences.of("Terms", "divided by 100 less the hundredths that are eaten, cut each time.");
        DeepiceWatch w = Watches.eyeAt(0, 0, 10);
        w.addEye(0, 30);
        w.setTrigger(2, 500);
        for (int i = 0; i < 9; i++) {
            Check.same("a pulse of charge 1", w.flash(9, 0, 14, 1, i), 1);
            Check.same("a pulse of charge 1", w.flash(9, 0, 26, 1, i), 1);
        }
        Check.same("25: charge", w.eventAt(0, 'q'), 18);
        Check.same("26: the middle", w.placeOf(0, 'z'), 2000);
        Check.same("29: 18 times 163 are 2934", w.energyOf(0), 2);
    }

    private static void energyAtNoDistance() {
        Sentences.of("Terms", "of the charge times 1 and the square of differences summed");
        DeepiceWatch w = Watches.two(0, 0, 0, 0);
        Check.same("25: two of 255", w.eventAt(0, 'q'), 510);
        Check.same("29: 510", w.energyOf(0), 0);
        w.flash(0, 0, 0, 1, 1000);
        w.setLayer(0, 10, 20);
        Check.same("25: four of 255", w.eventAt(0, 'q'), 1020);
        Check.same("29: 1020, whatever is eaten", w.energyOf(0), 1);
    }

    private static void vetoedByFirstPulse() {
        Sentences.of("Terms", "An event is vetoed if its first pulse, kept or not, is on an outer string");
        DeepiceWatch w = grid();
        w.setPartner(10, 300);
        Watches.light(w, 2, 1100);
        Watches.light(w, 1, 1200);
        w.setOuter(3, true);
        Check.same("30: not on it", w.isVetoed(0), false);
        Watches.light(w, 22, 1300);
        Check.same("30: its last pulse is", w.isVetoed(0), false);
        Watches.light(w, 18, 1100);
        Check.same("30: at the first tick the lower eye is first", w.isVetoed(0), false);
        Watches.light(w, 18, 1000);
        Check.same("30: its first pulse is, and is not kept", w.isVetoed(0), true);
        Check.same("25: two are kept", w.eventAt(0, 'k'), 2);
        w.setOuter(3, false);
        Check.same("30: no outer one", w.isVetoed(0), false);
        w.setOuter(0, true);
        Check.same("30: that of the first kept one does not count", w.isVetoed(0), false);
        w.setEye(18, 'l');
        Check.same("30: without the loud eye's it is the first", w.isVetoed(0), true);
    }

    private static void vetoedAsItGoesDown() {
        Sentences.of("Terms", "or if it is a track that goes down, its speed on z being above 0");
        Check.same("30: 1", Watches.slow(2, 1, 18).isVetoed(0), true);
        Check.same("28: of a track", Watches.slow(2, 1, 18).kindOf(0), 't');
        Check.same("30: 0.9998, which is 0", Watches.slow(2, 1, 17).isVetoed(0), false);
        Check.same("30: 0", Watches.slow(2, 1, 0).isVetoed(0), false);
        Check.same("30: -0.9998", Watches.slow(2, -1, 17).isVetoed(0), false);
        Check.same("30: -1", Watches.slow(2, -1, 18).isVetoed(0), false);
        Check.same("30: down, 5000", Watches.two(0, 0, 10, 200).isVetoed(0), true);
        Check.same("30: up, -5000", Watches.two(0, 0, 10, -200).isVetoed(0), false);
        Check.same("30: down, but a ball", Watches.two(0, 0, 10, 201).isVetoed(0), false);
        Check.same("30: along x", Watches.two(10, 0, 0, 200).isVetoed(0), false);
    }

    private static void vetoedWithoutPulsesKept() {
        Sentences.of("Promise 30", "without pulses kept by its first pulse alone");
        DeepiceWatch w = Watches.two(0, 0, 10, 200);
        Check.same("30: as a track down", w.isVetoed(0), true);
        w.setPartner(9, 300);
        Check.same("25: none is kept", w.eventAt(0, 'k'), 0);
        Check.same("30: no track", w.isVetoed(0), false);
        w.setOuter(1, true);
        Check.same("30: the second pulse", w.isVetoed(0), false);
        w.setOuter(0, true);
        Check.same("30: the first pulse", w.isVetoed(0), true);
    }
}
