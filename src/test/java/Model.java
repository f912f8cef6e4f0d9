import java.math.BigInteger;
import java.util.ArrayList;
import java.util.Arrays;
import java.util.Comparator;
import java.util.List;
import java.util.NoSuchElementException;
import java.util.TreeMap;
import java.util.TreeSet;

/**
 * The document a second time, in the plainest and slowest way and with numbers that never overflow. It only answers
 * calls that are in range: ModelTest knows the ranges.
 */
final class Model {
    static final class Eye {
        int number;
        int string;
        int[] at;
        char state = 'g';
        int offset;
        int drift;
        List<long[]> calls = new ArrayList<>();
    }

    static final class Pulse {
        Eye eye;
        long own;
        int charge;
        int came;
        long tick;
    }

    static final class Kept {
        long first;
        char kind = '-';
        boolean vetoed;
        long energy;
        int version;
        long[] middle = new long[3];
        List<Pulse> pulses;
    }

    final List<int[]> strings = new ArrayList<>();
    final List<Boolean> outer = new ArrayList<>();
    final List<Eye> eyes = new ArrayList<>();
    final TreeMap<Long, int[]> layers = new TreeMap<>();
    int told = 0;
    List<Pulse> pulses = new ArrayList<>();
    int came = 0;
    BigInteger z = BigInteger.ONE;
    int leastEyes = 4;
    int window = 500;
    int reach = 20;
    int apart = 300;
    boolean open = false;
    int trials = 0;
    final Integer[] claims = new Integer[8];
    final List<List<Kept>> days = new ArrayList<>();

    // ---- the ice and the light

    static long square(long[] a, int[] b) {
        long sum = 0;
        for (int i = 0; i < 3; i++) {
            sum += (a[i] - b[i]) * (a[i] - b[i]);
        }
        return sum;
    }

    static int root(long square) {
        int root = 0;
        while ((long) (root + 1) * (root + 1) <= square) {
            root++;
        }
        return root;
    }

    int[] iceAt(long depth) {
        return layers.floorEntry(depth) == null ? new int[] {10, 5} : layers.floorEntry(depth).getValue();
    }

    int[] iceBetween(long[] a, int[] b) {
        BigInteger sum = BigInteger.valueOf(a[2] + b[2]);
        return iceAt(sum.divide(BigInteger.TWO).longValue());
    }

    int charge(long[] from, Eye eye, long strength) {
        BigInteger charge = BigInteger.valueOf(1000 * strength).divide(BigInteger.valueOf(1 + square(from, eye.at)));
        int left = 100 - iceBetween(from, eye.at)[1];
        for (int i = root(square(from, eye.at)); i > 0; i--) {
            charge = charge.multiply(BigInteger.valueOf(left)).divide(BigInteger.valueOf(100));
        }
        return charge.min(BigInteger.valueOf(255)).intValue();
    }

    int delay(long[] from, Eye eye) {
        int d = root(square(from, eye.at));
        return 10 * d + iceBetween(from, eye.at)[0] * d * d / 100;
    }

    int sendAll(int[] from, int[] step, int steps, int strength, int tick) {
        int kept = 0;
        for (Eye eye : eyes) {
            int sum = 0;
            TreeSet<Integer> arrivals = new TreeSet<>();
            for (int i = 0; i <= steps; i++) {
                long[] at = {from[0] + i * step[0], from[1] + i * step[1], from[2] + i * step[2]};
                int charge = charge(at, eye, strength);
                if (charge >= 1) {
                    sum += charge;
                    arrivals.add(tick + 5 * i + delay(at, eye));
                }
            }
            if (sum > 0 && add(eye, arrivals.first(), Math.min(255, sum))) {
                kept++;
            }
        }
        return kept;
    }

    boolean add(Eye eye, long tick, int charge) {
        came++;
        if (eye.state == 'd' || pulses.size() == 200) {
            return false;
        }
        Pulse pulse = new Pulse();
        pulse.eye = eye;
        pulse.own = own(eye, tick);
        pulse.charge = charge;
        pulse.came = came;
        pulses.add(pulse);
        return true;
    }

    int noise(int many) {
        int kept = 0;
        for (int i = 0; i < many; i++) {
            Eye eye = eyes.get(lot().mod(BigInteger.valueOf(eyes.size())).intValue());
            int tick = lot().mod(BigInteger.valueOf(100000)).intValue();
            kept += add(eye, tick, 1) ? 1 : 0;
        }
        return kept;
    }

    BigInteger lot() {
        z = z.multiply(BigInteger.valueOf(48271)).mod(BigInteger.valueOf(2147483647));
        return z;
    }

    // ---- clocks

    static long own(Eye eye, long tick) {
        long drifted = BigInteger.valueOf(tick).multiply(BigInteger.valueOf(eye.drift))
                .divide(BigInteger.valueOf(1000000)).longValueExact();
        return tick + eye.offset + drifted;
    }

    static long mend(Eye eye, long own) {
        int n = eye.calls.size();
        if (n == 0) {
            return own;
        }
        long[] last = eye.calls.get(n - 1);
        long[] first = n > 1 ? eye.calls.get(n - 2) : last;
        if (first[1] == last[1]) {
            return last[0] + own - last[1];
        }
        BigInteger product = BigInteger.valueOf(own - first[1]).multiply(BigInteger.valueOf(last[0] - first[0]));
        return first[0] + product.divide(BigInteger.valueOf(last[1] - first[1])).longValueExact();
    }

    List<Pulse> inOrder() {
        List<Pulse> order = new ArrayList<>(pulses);
        for (Pulse p : order) {
            p.tick = mend(p.eye, p.own);
        }
        order.sort(Comparator.<Pulse>comparingLong(p -> p.tick).thenComparingInt(p -> p.eye.number)
                .thenComparingInt(p -> p.came));
        return order;
    }

    // ---- events

    /** Triggers as sets of pulses, joined as long as two of them share one. */
    List<List<Pulse>> events() {
        List<Pulse> good = new ArrayList<>(inOrder());
        good.removeIf(p -> p.eye.state != 'g');
        List<TreeSet<Integer>> sets = new ArrayList<>();
        for (int i = 0; i < good.size(); i++) {
            TreeSet<Integer> trigger = new TreeSet<>();
            TreeSet<Integer> unlike = new TreeSet<>();
            for (int j = i; j < good.size(); j++) {
                if (good.get(j).tick - good.get(i).tick <= window) {
                    trigger.add(j);
                    unlike.add(good.get(j).eye.number);
                }
            }
            if (unlike.size() >= leastEyes) {
                absorb(sets, trigger);
            }
        }
        sets.sort(Comparator.comparing(TreeSet::first));
        List<List<Pulse>> events = new ArrayList<>();
        for (TreeSet<Integer> set : sets) {
            List<Pulse> event = new ArrayList<>();
            for (int i : set) {
                event.add(good.get(i));
            }
            events.add(event);
        }
        return events;
    }

    private static void absorb(List<TreeSet<Integer>> sets, TreeSet<Integer> trigger) {
        for (int i = sets.size() - 1; i >= 0; i--) {
            TreeSet<Integer> shared = new TreeSet<>(sets.get(i));
            shared.retainAll(trigger);
            if (!shared.isEmpty()) {
                trigger.addAll(sets.remove(i));
            }
        }
        sets.add(trigger);
    }

    List<Pulse> kept(List<Pulse> event) {
        List<Pulse> kept = new ArrayList<>();
        for (Pulse p : event) {
            for (Pulse q : event) {
                long[] at = {q.eye.at[0], q.eye.at[1], q.eye.at[2]};
                if (p.eye != q.eye && root(square(at, p.eye.at)) <= reach && Math.abs(p.tick - q.tick) <= apart) {
                    kept.add(p);
                    break;
                }
            }
        }
        return kept;
    }

    static BigInteger weighted(List<Pulse> kept, java.util.function.Function<Pulse, BigInteger> of) {
        BigInteger sum = BigInteger.ZERO;
        for (Pulse p : kept) {
            sum = sum.add(of.apply(p).multiply(big(p.charge)));
        }
        return sum;
    }

    static BigInteger big(long number) {
        return BigInteger.valueOf(number);
    }

    static long place(List<Pulse> kept, int axis) {
        BigInteger charges = weighted(kept, p -> BigInteger.ONE);
        return weighted(kept, p -> big(100L * p.eye.at[axis])).divide(charges).longValueExact();
    }

    static int speed(List<Pulse> kept, int axis) {
        BigInteger charges = weighted(kept, p -> BigInteger.ONE);
        long mean = weighted(kept, p -> big(p.tick)).divide(charges).longValueExact();
        long at = place(kept, axis);
        BigInteger spread = weighted(kept, p -> big(p.tick - mean).pow(2));
        BigInteger along = weighted(kept, p -> big(p.tick - mean).multiply(big(100L * p.eye.at[axis] - at)));
        return spread.signum() == 0 ? 0 : along.multiply(big(1000)).divide(spread).intValueExact();
    }

    static char kind(List<Pulse> kept) {
        BigInteger sum = BigInteger.ZERO;
        for (int axis = 0; axis < 3; axis++) {
            sum = sum.add(big(speed(kept, axis)).pow(2));
        }
        return sum.compareTo(big(25000000)) >= 0 ? 't' : 'b';
    }

    long energy(List<Pulse> kept, long[] middle) {
        BigInteger sum = BigInteger.ZERO;
        for (Pulse p : kept) {
            BigInteger sent = big(p.charge).multiply(big(1 + square(middle, p.eye.at)));
            for (int i = root(square(middle, p.eye.at)); i > 0; i--) {
                sent = sent.multiply(big(100)).divide(big(100 - iceBetween(middle, p.eye.at)[1]));
            }
            sum = sum.add(sent);
        }
        return sum.divide(big(1000)).longValueExact();
    }

    static long[] middle(List<Pulse> kept) {
        return new long[] {place(kept, 0) / 100, place(kept, 1) / 100, place(kept, 2) / 100};
    }

    boolean vetoed(List<Pulse> event) {
        List<Pulse> kept = kept(event);
        boolean down = !kept.isEmpty() && kind(kept) == 't' && speed(kept, 2) > 0;
        return outer.get(event.get(0).eye.string) || down;
    }

    int[] bins() {
        int[] bins = new int[8];
        for (List<Pulse> event : events()) {
            List<Pulse> kept = kept(event);
            if (!kept.isEmpty() && kind(kept) == 't' && !vetoed(event)) {
                int bin = 0;
                for (int axis = 0; axis < 3; axis++) {
                    bin = 2 * bin + (speed(kept, axis) < 0 ? 0 : 1);
                }
                bins[bin]++;
            }
        }
        return bins;
    }

    static int all(int[] bins) {
        return Arrays.stream(bins).sum();
    }

    // ---- the calls, exceptions and all

    private static void argument(boolean good) {
        if (!good) {
            throw new IllegalArgumentException();
        }
    }

    private static void state(boolean good) {
        if (!good) {
            throw new IllegalStateException();
        }
    }

    private static <T> T at(List<T> list, int index) {
        if (index < 0 || index >= list.size()) {
            throw new IndexOutOfBoundsException();
        }
        return list.get(index);
    }

    private static boolean in(long number, long least, long most) {
        return least <= number && number <= most;
    }

    private static boolean isPlace(int x, int y, int z) {
        return in(x, -20, 20) && in(y, -20, 20) && in(z, 0, 63);
    }

    private static boolean oneOf(String letters, char letter) {
        return letters.indexOf(letter) >= 0;
    }

    private List<Pulse> fitted(int event) {
        List<Pulse> kept = kept(at(events(), event));
        if (kept.isEmpty()) {
            throw new NoSuchElementException();
        }
        return kept;
    }

    Object answer(String name, Object[] a) {
        int[] n = new int[a.length];
        char c = 0;
        for (int i = 0; i < a.length; i++) {
            n[i] = a[i] instanceof Integer ? (Integer) a[i] : 0;
            c = a[i] instanceof Character ? (Character) a[i] : c;
        }
        switch (name) {
            case "addString": case "setOuter": case "addEye": case "setEye": case "distance":
            case "setLayer": case "scatteringAt": case "version":
                return ofField(name, n, c, a);
            case "chargeAt": case "delayTo": case "flash": case "pass": case "noise": case "seed":
                return ofLight(name, n);
            case "setClock": case "call": case "mended": case "pulses": case "pulseAt": case "wipe":
                return ofClocks(name, n, c);
            case "vote": case "look": case "claim": case "trialsOf": case "takeBack": case "trials":
                return ofSky(name, n);
            case "closeDay": case "days": case "keptAt": case "keptKind": case "redo":
                return ofDays(name, n, c);
            case "checksum": case "loudShare": case "meanCharge": case "isSound":
                return ofFigures(name);
            default:
                return ofEvents(name, n, c);
        }
    }

    private Object ofField(String name, int[] n, char c, Object[] a) {
        switch (name) {
            case "addString":
                argument(in(n[0], -20, 20) && in(n[1], -20, 20));
                state(strings.size() < 6);
                strings.add(n);
                outer.add(false);
                return strings.size() - 1;
            case "setOuter":
                at(strings, n[0]);
                return outer.set(n[0], (Boolean) a[1]);
            case "addEye":
                at(strings, n[0]);
                argument(in(n[1], 0, 63));
                state(eyes.size() < 24);
                Eye eye = new Eye();
                eye.number = eyes.size();
                eye.string = n[0];
                eye.at = new int[] {strings.get(n[0])[0], strings.get(n[0])[1], n[1]};
                eyes.add(eye);
                return eye.number;
            case "setEye":
                Eye set = at(eyes, n[0]);
                argument(oneOf("gdl", c));
                char was = set.state;
                set.state = c;
                return was;
            case "distance":
                int[] from = at(eyes, n[0]).at;
                return root(square(new long[] {from[0], from[1], from[2]}, at(eyes, n[1]).at));
            case "setLayer":
                argument(in(n[0], 0, 63) && in(n[1], 0, 99) && in(n[2], 0, 20));
                state(layers.containsKey((long) n[0]) || layers.size() < 6);
                layers.put((long) n[0], new int[] {n[1], n[2]});
                told++;
                return layers.size();
            case "scatteringAt":
                return iceAt(n[0])[0];
            default:
                return told;
        }
    }

    private Object ofLight(String name, int[] n) {
        switch (name) {
            case "chargeAt":
                Eye to = at(eyes, n[0]);
                argument(isPlace(n[1], n[2], n[3]) && in(n[4], 1, 100000));
                return charge(new long[] {n[1], n[2], n[3]}, to, n[4]);
            case "delayTo":
                Eye later = at(eyes, n[0]);
                argument(isPlace(n[1], n[2], n[3]));
                return delay(new long[] {n[1], n[2], n[3]}, later);
            case "flash":
                argument(isPlace(n[0], n[1], n[2]) && in(n[3], 1, 100000) && in(n[4], 0, 99999));
                return sendAll(n, new int[3], 0, n[3], n[4]);
            case "pass":
                argument(isPlace(n[0], n[1], n[2]) && in(n[3], 0, 124) && n[3] != 62 && in(n[4], 1, 40)
                        && in(n[5], 1, 100000) && in(n[6], 0, 99999));
                String digits = Integer.toString(125 + n[3], 5);
                int[] step = {digits.charAt(1) - '2', digits.charAt(2) - '2', digits.charAt(3) - '2'};
                return sendAll(n, step, n[4], n[5], n[6]);
            case "noise":
                argument(in(n[0], 1, 30));
                state(!eyes.isEmpty());
                return noise(n[0]);
            default:
                argument(in(n[0], 1, 2147483646));
                int was = z.intValueExact();
                z = big(n[0]);
                return was;
        }
    }

    private Object ofClocks(String name, int[] n, char c) {
        switch (name) {
            case "setClock":
                Eye eye = at(eyes, n[0]);
                argument(in(n[1], -9999, 9999) && in(n[2], -9999, 9999));
                int was = eye.offset;
                eye.offset = n[1];
                eye.drift = n[2];
                eye.calls.clear();
                return was;
            case "call":
                Eye called = at(eyes, n[0]);
                argument(in(n[1], 0, 999999));
                if (!called.calls.isEmpty() && called.calls.get(called.calls.size() - 1)[0] >= n[1]) {
                    throw new UnsupportedOperationException();
                }
                called.calls.add(new long[] {n[1], own(called, n[1])});
                return own(called, n[1]);
            case "mended":
                return mend(at(eyes, n[0]), n[1]);
            case "pulses":
                return pulses.size();
            case "wipe":
                int were = pulses.size();
                pulses = new ArrayList<>();
                return were;
            default:
                Pulse p = at(inOrder(), n[0]);
                argument(oneOf("etoq", c));
                return c == 'e' ? (long) p.eye.number : c == 't' ? p.tick : c == 'o' ? p.own : (long) p.charge;
        }
    }

    private Object ofEvents(String name, int[] n, char c) {
        switch (name) {
            case "setTrigger":
                argument(in(n[0], 2, 9) && in(n[1], 1, 9999));
                int least = leastEyes;
                leastEyes = n[0];
                window = n[1];
                return least;
            case "setPartner":
                argument(in(n[0], 1, 99) && in(n[1], 1, 9999));
                int was = reach;
                reach = n[0];
                apart = n[1];
                return was;
            case "events":
                return events().size();
            case "eventAt":
                return thing(at(events(), n[0]), c);
            case "placeOf":
                at(events(), n[0]);
                argument(oneOf("xyz", c));
                return (int) place(fitted(n[0]), c - 'x');
            case "speedOf":
                at(events(), n[0]);
                argument(oneOf("xyz", c));
                return speed(fitted(n[0]), c - 'x');
            case "kindOf":
                return kind(fitted(n[0]));
            case "energyOf":
                return energy(fitted(n[0]), middle(fitted(n[0])));
            case "isVetoed":
                return vetoed(at(events(), n[0]));
            default:
                throw new AssertionError(name);
        }
    }

    private Object thing(List<Pulse> event, char what) {
        argument(oneOf("flneqk", what));
        TreeSet<Integer> unlike = new TreeSet<>();
        long charges = 0;
        for (Pulse p : event) {
            unlike.add(p.eye.number);
            charges += p.charge;
        }
        switch (what) {
            case 'f': return event.get(0).tick;
            case 'l': return event.get(event.size() - 1).tick;
            case 'n': return (long) event.size();
            case 'e': return (long) unlike.size();
            case 'q': return charges;
            default: return (long) kept(event).size();
        }
    }

    private Object ofSky(String name, int[] n) {
        switch (name) {
            case "vote":
                argument(in(n[0], 0, 99) && in(n[1], 0, 99));
                open |= n[0] > n[1];
                return open;
            case "trials":
                return trials;
            default:
                argument(in(n[0], 0, 7));
                return ofBin(name, n[0]);
        }
    }

    private Object ofBin(String name, int bin) {
        switch (name) {
            case "look":
                state(open);
                trials++;
                return bins()[bin];
            case "claim":
                state(open);
                if (claims[bin] != null) {
                    throw new UnsupportedOperationException();
                }
                trials++;
                int[] bins = bins();
                boolean made = bins[bin] >= 2 && 8 * bins[bin] >= 3 * all(bins);
                claims[bin] = made ? trials : null;
                return made;
            case "trialsOf":
                if (claims[bin] == null) {
                    throw new NoSuchElementException();
                }
                return claims[bin];
            default:
                boolean was = claims[bin] != null;
                claims[bin] = null;
                return was;
        }
    }

    private Object ofDays(String name, int[] n, char c) {
        switch (name) {
            case "closeDay":
                state(days.size() < 6);
                days.add(day());
                pulses = new ArrayList<>();
                open = false;
                return days.get(days.size() - 1).size();
            case "days":
                return days.size();
            case "keptAt":
                Kept k = at(at(days, n[0]), n[1]);
                argument(oneOf("fevi", c));
                return c == 'f' ? k.first : c == 'e' ? k.energy : c == 'v' ? (k.vetoed ? 1L : 0L) : (long) k.version;
            case "keptKind":
                return at(at(days, n[0]), n[1]).kind;
            default:
                int others = 0;
                for (Kept kept : at(days, n[0])) {
                    long energy = energy(kept.pulses, kept.middle);
                    others += energy == kept.energy ? 0 : 1;
                    kept.energy = energy;
                    kept.version = told;
                }
                return others;
        }
    }

    private List<Kept> day() {
        List<Kept> day = new ArrayList<>();
        for (List<Pulse> event : events()) {
            if (day.size() == 12) {
                break;
            }
            Kept kept = new Kept();
            kept.first = event.get(0).tick;
            kept.vetoed = vetoed(event);
            kept.version = told;
            kept.pulses = kept(event);
            if (!kept.pulses.isEmpty()) {
                kept.kind = kind(kept.pulses);
                kept.middle = middle(kept.pulses);
                kept.energy = energy(kept.pulses, kept.middle);
            }
            day.add(kept);
        }
        return day;
    }

    private Object ofFigures(String name) {
        long charges = 0;
        BigInteger sum = big(7);
        for (Pulse p : inOrder()) {
            charges += p.charge;
            sum = sum.multiply(big(31)).add(big(p.tick)).multiply(big(31)).add(big(p.charge));
        }
        long loud = eyes.stream().filter(e -> e.state == 'l').count();
        switch (name) {
            case "checksum":
                for (int part : new int[] {events().size(), trials, days.size()}) {
                    sum = sum.multiply(big(31)).add(big(part));
                }
                return sum.longValue();
            case "loudShare":
                if (eyes.isEmpty()) {
                    throw new ArithmeticException();
                }
                return (float) loud / (float) eyes.size();
            case "meanCharge":
                if (pulses.isEmpty()) {
                    throw new ArithmeticException();
                }
                return (double) charges / (double) pulses.size();
            default:
                return true;
        }
    }
}
