/** What the document says of a watch in general: what it is, and the story that the terms begin with. */
public final class StoryTest {
    private static final int BACK_ON_X = 37;

    public static void main(String[] args) {
        whatItIs();
        laterCalls();
        lightOnSlowClocks();
        soManyWithinSoLong();
        partnersLeftAside();
        lineByMoments();
        energyByTheIce();
        fromAboveIsThrownAway();
        closedUntilAVote();
        whateverOrder();
        Sentences.end();
    }

    /** One day from strings of eyes to a claim. */
    private static void whatItIs() {
        Sentences.of("What it is", "A watch in deep ice: its calls are those that a Java programmer would choose for"
                + " strings of eyes, layers of ice, light, clocks, pulses, triggers, fits, vetoes, votes and claims.");
        DeepiceWatch w = new DeepiceWatch();
        Check.same("a string", w.addString(0, 0), 0);
        for (int eye = 0; eye < 5; eye++) {
            Check.same("an eye", w.addEye(0, 10 + 10 * eye), eye);
        }
        Check.same("a layer of ice", w.setLayer(0, 20, 10), 1);
        Check.same("a clock", w.setClock(2, 700, 0), 0);
        Check.same("an eye is called", w.call(2, 0), 700);
        Check.same("a trigger", w.setTrigger(3, 300), 4);
        for (int event = 0; event < 2; event++) {
            for (int i = 0; i < 3; i++) {
                Check.same("light", w.flash(0, 0, 40 - 10 * i, 1, 1000 + 1000 * event + 100 * i), 1);
            }
        }
        Check.same("pulses", w.pulses(), 6);
        Check.same("two triggers", w.events(), 2);
        Check.same("a fit: up, 1000 in 100", w.speedOf(0, 'z'), -10000);
        Check.same("no veto", w.isVetoed(0), false);
        Check.same("a vote", w.vote(1, 0), true);
        Check.same("a claim", w.claim(6), true);
        Check.same("the day is closed", w.closeDay(), 2);
        Check.same("the claim stays", w.trialsOf(6), 1);
    }

    /** What is free may be any answer, but none that the machine throws. */
    private static void laterCalls() {
        Sentences.of("What it is", "what later calls answer is free.");
        DeepiceWatch w = Watches.furnished();
        for (int i = 0; i < 5000; i++) {
            int number = i;
            answered(() -> w.noise(number % 32));
            answered(() -> w.pass(number % 21, 0, number % 64, number % 125, 1 + number % 40, 1, 0));
            answered(() -> w.look(number % 9));
            answered(() -> w.pulseAt(number % 201, 't'));
            answered(() -> w.energyOf(number % 9));
            answered(() -> w.closeDay());
            answered(() -> w.redo(number % 7));
            answered(() -> number % 50 == 0 ? w.wipe() : w.checksum());
        }
        Check.same("a new object is as new", new DeepiceWatch().checksum(), 7L * 29791);
    }

    private static void answered(Check.Call call) {
        try {
            call.make();
        } catch (RuntimeException e) {
            Check.holds("the machine threw " + e, Check.isOwn(e));
        }
    }

    /** An eye that is 100 ahead and loses a thousandth, behind dust of 50. */
    private static void lightOnSlowClocks() {
        Sentences.of("Terms", "Light from balls and from passers comes through dusty layers to eyes on slow clocks");
        DeepiceWatch w = Watches.eyeAt(0, 0, 30);
        w.setLayer(20, 50, 5);
        w.setClock(0, 100, -1000);
        Check.same("12: from a ball", w.flash(10, 0, 30, 100, 1000), 1);
        Check.same("20: 1000, 100 and 50 are 1150, and 100 less 1", w.pulseAt(0, 'o'), 1249);
        w.wipe();
        Check.same("13: from a passer", w.pass(10, 0, 30, BACK_ON_X, 1, 100, 1000), 1);
        Check.same("20: 1005, 90 and 40 are 1135, and 100 less 1", w.pulseAt(0, 'o'), 1234);
        w.setLayer(20, 0, 5);
        w.wipe();
        w.flash(10, 0, 30, 100, 1000);
        Check.same("20: without dust 1100, and 100 less 1", w.pulseAt(0, 'o'), 1199);
    }

    private static void soManyWithinSoLong() {
        Sentences.of("Terms", "so many within so long are an event");
        for (int eyes = 2; eyes <= 9; eyes++) {
            DeepiceWatch w = Watches.grid();
            w.setTrigger(eyes, 70);
            for (int i = 0; i < eyes; i++) {
                Check.same("24: none by " + i, w.events(), 0);
                Watches.light(w, 2 * i, 1000 + 70 * i / (eyes - 1));
            }
            Check.same("24: one by " + eyes, w.events(), 1);
            w.setTrigger(eyes, 69);
            Check.same("24: none within 69", w.events(), 0);
        }
    }

    private static void partnersLeftAside() {
        Sentences.of("Terms", "pulses without partners are left aside");
        DeepiceWatch w = Watches.grid();
        w.setTrigger(3, 500);
        Watches.light(w, 0, 1000);
        Watches.light(w, 1, 1000);
        Watches.light(w, 23, 1000);
        Check.same("25: one of three has none", w.eventAt(0, 'k'), 2);
        Check.same("26: the place is that of two", w.placeOf(0, 'z'), 500);
        Check.same("26: beside it there is none", w.placeOf(0, 'x'), 0);
        w.setPartner(99, 300);
        Check.same("26: by a longer reach it is that of three", w.placeOf(0, 'z'), 2000);
    }

    /** Five pulses on a line, 10 on z and 50 ticks each: 1000 in 50 ticks are 20000, whichever come first. */
    private static void lineByMoments() {
        Sentences.of("Terms", "a line is fitted by moments");
        DeepiceWatch w = Watches.grid();
        for (int i = 0; i < 5; i++) {
            Watches.light(w, i, 1000 + 50 * i);
        }
        Check.same("27: along it", w.speedOf(0, 'z'), 20000);
        Check.same("26: its middle", w.placeOf(0, 'z'), 2000);
        w.wipe();
        int[] ticks = {1000, 1060, 1090, 1150, 1200};
        for (int i = 0; i < 5; i++) {
            Watches.light(w, i, ticks[i]);
        }
        Check.same("27: beside it by 10 twice: 490000000 by 24200", w.speedOf(0, 'z'), 20247);
    }

    private static void energyByTheIce() {
        Sentences.of("Terms", "an energy by the ice");
        DeepiceWatch w = Watches.two(0, 0, 20, 0);
        int[] eaten = {0, 1, 5, 20};
        long[] due = {51, 56, 86, 479};
        for (int i = 0; i < 4; i++) {
            w.setLayer(0, 10, eaten[i]);
            Check.same("29: by " + eaten[i], w.energyOf(0), due[i]);
        }
    }

    private static void fromAboveIsThrownAway() {
        Sentences.of("Terms", "what came from above is thrown away");
        DeepiceWatch w = Watches.cube();
        for (int i = -1; i <= 1; i++) {
            Check.same("a pulse", w.flash(10 * i, 10 * i, 30 + 10 * i, 1, 1100 + 100 * i), 1);
        }
        Check.same("28: a track", w.kindOf(0), 't');
        Check.same("30: from above", w.isVetoed(0), true);
        for (int bin = 0; bin < 8; bin++) {
            Check.same("32: in no bin", w.look(bin), 0);
        }
        Watches.track(w, 6, 5000);
        Check.same("30: from below", w.isVetoed(1), false);
        Check.same("32: in its bin", w.look(6), 1);
    }

    private static void closedUntilAVote() {
        Sentences.of("Terms", "a sky is closed until a vote, and a claim names its trials.");
        DeepiceWatch w = Watches.furnished();
        w.closeDay();
        Check.thrown("32: closed", IllegalStateException.class, () -> w.look(0));
        Check.thrown("33: closed", IllegalStateException.class, () -> w.claim(0));
        Check.same("31: a vote", w.vote(50, 49), true);
        Check.same("32: open", w.look(0), 0);
        DeepiceWatch cube = Watches.cube();
        Watches.tracks(cube, 3, 3, 0);
        cube.look(0);
        cube.look(1);
        Check.same("33: the third trial", cube.claim(3), true);
        Check.same("34: which the claim names", cube.trialsOf(3), 3);
    }

    // ---- the order in which pulses came

    /** Eye, tick and whether it is a dim one; some at one tick, some of one eye at one tick. */
    private static final int[][] PULSES = {
        {1, 1000, 0}, {1, 1000, 1}, {7, 1000, 0}, {2, 1080, 1}, {8, 1080, 0}, {3, 1160, 0}, {9, 1160, 1}, {9, 1160, 1},
        {22, 3000, 0}, {21, 3080, 0}, {20, 3160, 1}, {20, 3160, 0}, {3, 3160, 0}, {19, 3240, 0},
        {16, 5000, 1}, {15, 5080, 0}, {14, 5160, 0}, {14, 5161, 1}, {4, 5161, 0}, {10, 7000, 0}, {11, 7000, 0},
        {4, 9000, 0}, {3, 9080, 1}, {3, 9080, 0}, {2, 9160, 0},
    };

    private static void whateverOrder() {
        Sentences.of("Terms", "What is claimed follows from pulses as kept, whatever order they came in.");
        int[] order = new int[PULSES.length];
        for (int i = 0; i < order.length; i++) {
            order[i] = i;
        }
        String due = claimed(order);
        Check.holds("a track and a ball: " + due, due.contains(" t") && due.contains(" b"));
        Check.holds("a claim of two: " + due, due.contains(" 2true "));
        long z = 1;
        for (int run = 0; run < 200; run++) {
            for (int i = order.length - 1; i > 0; i--) {
                z = z * 48271 % 2147483647;
                int other = (int) (z % (i + 1));
                int moved = order[i];
                order[i] = order[other];
                order[other] = moved;
            }
            Check.alike("33: run " + run, claimed(order), due);
        }
    }

    /** What is found, fitted, vetoed and claimed of those pulses as they come in that order. */
    private static String claimed(int[] order) {
        DeepiceWatch w = Watches.grid();
        w.setTrigger(2, 100);
        w.setOuter(2, true);
        w.vote(1, 0);
        for (int i : order) {
            if (PULSES[i][2] == 1) {
                Watches.dim(w, PULSES[i][0], PULSES[i][1]);
            } else {
                Watches.light(w, PULSES[i][0], PULSES[i][1]);
            }
        }
        StringBuilder told = new StringBuilder();
        int events = w.events();
        for (int event = 0; event < events; event++) {
            for (char what : "flneqk".toCharArray()) {
                told.append(w.eventAt(event, what)).append(' ');
            }
            for (char axis : "xyz".toCharArray()) {
                told.append(w.placeOf(event, axis)).append(' ').append(w.speedOf(event, axis)).append(' ');
            }
            told.append(w.kindOf(event)).append(w.energyOf(event)).append(w.isVetoed(event)).append(' ');
        }
        for (int bin = 0; bin < 8; bin++) {
            told.append(w.look(bin)).append(w.claim(bin)).append(' ');
        }
        return told.toString();
    }
}
