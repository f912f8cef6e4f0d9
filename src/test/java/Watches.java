/** Watches that the tests of edges begin with, and light that comes to one eye alone. */
final class Watches {
    interface Maker {
        DeepiceWatch make();
    }

    private static final int[][] PLACES = {{0, 0}, {20, 0}, {0, 20}, {20, 20}};

    private Watches() {
    }

    static DeepiceWatch eyeAt(int x, int y, int z) {
        DeepiceWatch w = new DeepiceWatch();
        w.addString(x, y);
        w.addEye(0, z);
        return w;
    }

    /** In ice that eats nothing a charge is 1000 times the strength by 1 and the square, cut, at most 255. */
    static DeepiceWatch clearEyeAt(int x, int y, int z) {
        DeepiceWatch w = eyeAt(x, y, z);
        w.setLayer(0, 10, 0);
        return w;
    }

    /** Four strings of six eyes, 10 apart at least, so that light of strength 1 at one comes to no other. */
    static DeepiceWatch grid() {
        DeepiceWatch w = new DeepiceWatch();
        for (int[] place : PLACES) {
            w.addString(place[0], place[1]);
        }
        for (int eye = 0; eye < 24; eye++) {
            w.addEye(eye / 6, 10 * (eye % 6));
        }
        return w;
    }

    /** A pulse of charge 255 at one eye of the grid. */
    static void light(DeepiceWatch w, int eye, int tick) {
        int[] at = PLACES[eye / 6];
        Check.same("a pulse", w.flash(at[0], at[1], 10 * (eye % 6), 1, tick), 1);
    }

    /** A pulse of charge 85 at one eye of the grid: 1000 / 10 = 100, 95, 90, 85; it comes 30 ticks behind its light. */
    static void dim(DeepiceWatch w, int eye, int tick) {
        int[] at = PLACES[eye / 6];
        int x = at[0] == 0 ? 3 : at[0] - 3;
        Check.same("a pulse", w.flash(x, at[1], 10 * (eye % 6), 1, tick - 30), 1);
    }

    /**
     * One with something of everything: layers, a clock with two calls, a loud eye, an outer string, a day with a claim
     * from it, pulses whose events would be others by a window, a reach or partners' ticks that are one more or less.
     */
    static DeepiceWatch furnished() {
        DeepiceWatch w = new DeepiceWatch();
        w.addString(0, 0);
        w.addString(10, 0);
        w.addString(0, 10);
        for (int z = 10; z <= 40; z += 10) {
            w.addEye(0, z);
        }
        w.addEye(1, 30);
        w.addEye(2, 50);
        w.setLayer(20, 12, 4);
        w.setLayer(45, 30, 6);
        w.setTrigger(2, 100);
        w.setPartner(10, 90);
        w.vote(1, 0);
        up(w, 1000);
        up(w, 2000);
        Check.same("furnished: a claim", w.claim(6), true);
        Check.same("furnished: a day", w.closeDay(), 2);
        w.vote(2, 1);
        w.look(0);
        w.setClock(5, 7, 1000);
        w.call(5, 0);
        w.call(5, 10000);
        w.setOuter(2, true);
        w.setEye(4, 'l');
        w.seed(77);
        pulse(w, 5, 500);
        pulse(w, 4, 600);
        pair(w, 0, 1000, 1, 1090);
        pair(w, 0, 2000, 1, 2091);
        pair(w, 1, 3000, 2, 3100);
        pair(w, 2, 4000, 3, 4101);
        pair(w, 0, 5000, 2, 5050);
        up(w, 6000);
        up(w, 7000);
        return w;
    }

    private static void pulse(DeepiceWatch w, int eye, int tick) {
        int[][] at = {{0, 0, 10}, {0, 0, 20}, {0, 0, 30}, {0, 0, 40}, {10, 0, 30}, {0, 10, 50}};
        Check.same("furnished: a pulse", w.flash(at[eye][0], at[eye][1], at[eye][2], 1, tick), 1);
    }

    private static void pair(DeepiceWatch w, int eye, int tick, int other, int otherTick) {
        pulse(w, eye, tick);
        pulse(w, other, otherTick);
    }

    private static void up(DeepiceWatch w, int tick) {
        pulse(w, 3, tick);
        pulse(w, 2, tick + 40);
        pulse(w, 1, tick + 80);
    }

    static DeepiceWatch fullOfStrings() {
        DeepiceWatch w = furnished();
        for (int i = 3; i < 6; i++) {
            w.addString(-i, i);
        }
        return w;
    }

    static DeepiceWatch fullOfEyes() {
        DeepiceWatch w = furnished();
        for (int i = 6; i < 24; i++) {
            w.addEye(i % 3, 2 * i);
        }
        return w;
    }

    static DeepiceWatch fullOfLayers() {
        DeepiceWatch w = furnished();
        for (int from : new int[] {0, 10, 30, 63}) {
            w.setLayer(from, 20, 3);
        }
        return w;
    }

    static DeepiceWatch fullOfDays() {
        DeepiceWatch w = furnished();
        for (int i = 1; i < 6; i++) {
            up(w, 1000 * i);
            w.closeDay();
        }
        w.vote(1, 0);
        up(w, 500);
        return w;
    }

    static DeepiceWatch closedSky() {
        DeepiceWatch w = furnished();
        w.closeDay();
        up(w, 500);
        up(w, 1500);
        return w;
    }

    /**
     * A track with a slow speed on one axis: up along z, or along x if that axis is z, it goes 20 in 200 ticks, and a
     * pulse of charge 3, 1 to that side of its middle, comes so many ticks behind it. By 18 ticks 5400000 / 5100972 is
     * a speed of 1, by 17 it is 5100000 / 5100867, cut to 0. The sky is open.
     */
    static DeepiceWatch slow(int axis, int side, int late) {
        DeepiceWatch w = new DeepiceWatch();
        int[] off = {0, 0, 0};
        off[axis] = side;
        for (int i = -1; i <= 1; i++) {
            w.addEye(w.addString(axis == 2 ? 10 * i : 0, 0), axis == 2 ? 30 : 30 - 10 * i);
        }
        w.addEye(w.addString(off[0], off[1]), 30 + off[2]);
        w.setTrigger(4, 300);
        w.vote(1, 0);
        w.setEye(3, 'd');
        for (int i = -1; i <= 1; i++) {
            int x = axis == 2 ? 10 * i : 0;
            Check.same("a pulse", w.flash(x, 0, axis == 2 ? 30 : 30 - 10 * i, 1, 1100 + 100 * i), 1);
        }
        w.setEye(3, 'g');
        Check.same("a pulse", w.flash(10 * off[0], 10 * off[1], 30 + 10 * off[2], 1, 1100 + late - 98), 1);
        return w;
    }

    /** Two eyes so far apart on each axis, and a pulse of 255 at each, one so many ticks behind the other. */
    static DeepiceWatch two(int x, int y, int z, int ticks) {
        DeepiceWatch w = new DeepiceWatch();
        w.addEye(w.addString(0, 0), 0);
        w.addEye(w.addString(x, y), z);
        w.setTrigger(2, 9999);
        w.setPartner(99, 9999);
        w.setEye(1, 'd');
        w.flash(0, 0, 0, 1, 1000);
        w.setEye(1, 'g');
        w.setEye(0, 'd');
        w.flash(x, y, z, 1, 1000 + ticks);
        w.setEye(0, 'g');
        return w;
    }

    /** Eyes for tracks to all eight bins, on five strings at three depths, and a sky that is open. */
    static DeepiceWatch cube() {
        DeepiceWatch w = new DeepiceWatch();
        w.addString(0, 0);
        w.addEye(0, 30);
        for (int i = 0; i < 4; i++) {
            int string = w.addString(i < 2 ? -10 : 10, i % 2 == 0 ? -10 : 10);
            for (int z = 20; z <= 40; z += 10) {
                w.addEye(string, z);
            }
        }
        w.setTrigger(3, 300);
        w.vote(1, 0);
        return w;
    }

    /** A track of 10000 on x and y, either way, and of -10000 or 0 on z: it is of that bin, and not vetoed. */
    static void track(DeepiceWatch w, int bin, int tick) {
        int x = bin >= 4 ? 10 : -10;
        int y = bin / 2 % 2 == 1 ? 10 : -10;
        int z = bin % 2 == 1 ? 0 : -10;
        for (int i = -1; i <= 1; i++) {
            Check.same("a pulse", w.flash(x * i, y * i, 30 + z * i, 1, tick + 100 + 100 * i), 1);
        }
    }

    static void tracks(DeepiceWatch w, int bin, int many, int from) {
        for (int i = 0; i < many; i++) {
            track(w, bin, from + 1000 * i);
        }
    }
}
