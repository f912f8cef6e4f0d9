import java.util.ArrayList;
import java.util.NoSuchElementException;

/** A watch in deep ice: strings of eyes, the light that comes to them, and what is claimed from it. */
public final class DeepiceWatch {
    private static final int MOST_STRINGS = 6;
    private static final int MOST_EYES = 24;
    private static final int MOST_PULSES = 200;
    private static final int MOST_DAYS = 6;
    private static final int MOST_KEPT_EVENTS = 12;
    private static final int FARTHEST = 20;
    private static final int DEEPEST = 63;
    private static final int BRIGHTEST = 100000;
    private static final int TICKS = 100000;
    private static final int MOST_CHARGE = 255;
    private static final int NO_STEP = 62;
    private static final int BINS = 8;
    private static final long Z_FACTOR = 48271L;
    private static final long Z_MODULUS = 2147483647L;

    private final ArrayList<Cable> cables = new ArrayList<>();
    private final ArrayList<Eye> eyes = new ArrayList<>();
    private final Ice ice = new Ice();
    private final ArrayList<Pulse> recorded = new ArrayList<>();
    private final Events found = new Events();
    private final Fit fit = new Fit();
    private final Sky sky = new Sky();
    private final ArrayList<Day> closed = new ArrayList<>();
    private final Place source = new Place();
    private final Place stride = new Place();
    private long lot = 1;
    private int arrivals = 0;

    public DeepiceWatch() {
    }

    // ---- the field, the ice

    public int addString(int x, int y) throws IllegalArgumentException, IllegalStateException {
        mustHold(within(x, -FARTHEST, FARTHEST) && within(y, -FARTHEST, FARTHEST));
        if (cables.size() >= MOST_STRINGS) {
            throw new IllegalStateException("there are 6 strings");
        }
        cables.add(new Cable(x, y));
        return cables.size() - 1;
    }

    public boolean setOuter(int string, boolean is) throws IndexOutOfBoundsException {
        Cable cable = cableAt(string);
        boolean was = cable.outer;
        cable.outer = is;
        return was;
    }

    public int addEye(int string, int z)
            throws IndexOutOfBoundsException, IllegalArgumentException, IllegalStateException {
        Cable cable = cableAt(string);
        mustHold(within(z, 0, DEEPEST));
        if (eyes.size() >= MOST_EYES) {
            throw new IllegalStateException("there are 24 eyes");
        }
        eyes.add(new Eye(eyes.size(), cable, z));
        return eyes.size() - 1;
    }

    public char setEye(int eye, char state) throws IndexOutOfBoundsException, IllegalArgumentException {
        Eye set = eyeAt(eye);
        mustHold(state == 'g' || state == 'd' || state == 'l');
        char was = set.state;
        set.state = state;
        return was;
    }

    public int distance(int eye, int other) throws IndexOutOfBoundsException {
        return eyeAt(eye).place.distanceTo(eyeAt(other).place);
    }

    public int setLayer(int from, int scattering, int eaten) throws IllegalArgumentException, IllegalStateException {
        mustHold(within(from, 0, DEEPEST) && within(scattering, 0, 99) && within(eaten, 0, 20));
        if (!ice.hasRoomFor(from)) {
            throw new IllegalStateException("there are 6 other layers");
        }
        return ice.tell(from, scattering, eaten);
    }

    public int scatteringAt(int depth) {
        return ice.scatteringIn(depth);
    }

    public int version() {
        return ice.told;
    }

    // ---- light

    public int chargeAt(int eye, int x, int y, int z, int strength)
            throws IndexOutOfBoundsException, IllegalArgumentException {
        Eye to = eyeAt(eye);
        mustHold(isPlace(x, y, z) && within(strength, 1, BRIGHTEST));
        source.put(x, y, z);
        return ice.chargeBetween(source, to.place, strength);
    }

    public int delayTo(int eye, int x, int y, int z) throws IndexOutOfBoundsException, IllegalArgumentException {
        Eye to = eyeAt(eye);
        mustHold(isPlace(x, y, z));
        source.put(x, y, z);
        return ice.delayBetween(source, to.place);
    }

    public int flash(int x, int y, int z, int strength, int tick) throws IllegalArgumentException {
        mustHold(isPlace(x, y, z) && within(strength, 1, BRIGHTEST) && within(tick, 0, TICKS - 1));
        int kept = 0;
        stride.put(0, 0, 0);
        for (int i = 0; i < eyes.size(); i++) {
            source.put(x, y, z);
            kept += sendTo(eyes.get(i), 0, strength, tick);
        }
        return kept;
    }

    public int pass(int x, int y, int z, int step, int steps, int strength, int tick)
            throws IllegalArgumentException {
        mustHold(isPlace(x, y, z) && within(step, 0, 124) && step != NO_STEP && within(steps, 1, 40)
                && within(strength, 1, BRIGHTEST) && within(tick, 0, TICKS - 1));
        int kept = 0;
        stride.put(step / 25 - 2, step / 5 % 5 - 2, step % 5 - 2);
        for (int i = 0; i < eyes.size(); i++) {
            source.put(x, y, z);
            kept += sendTo(eyes.get(i), steps, strength, tick);
        }
        return kept;
    }

    public int noise(int many) throws IllegalArgumentException, IllegalStateException {
        mustHold(within(many, 1, 30));
        int among = eyes.size();
        if (among == 0) {
            throw new IllegalStateException("there are no eyes");
        }
        int kept = 0;
        for (int i = 0; i < many; i++) {
            int number = (int) (nextLot() % among);
            int tick = (int) (nextLot() % TICKS);
            if (number >= 0 && number < eyes.size()) {
                kept += record(eyes.get(number), tick, 1);
            }
        }
        return kept;
    }

    public int seed(int z) throws IllegalArgumentException {
        mustHold(within(z, 1, (int) Z_MODULUS - 1));
        int was = (int) lot;
        lot = z;
        return was;
    }

    // ---- clocks, pulses

    public int setClock(int eye, int offset, int drift) throws IndexOutOfBoundsException, IllegalArgumentException {
        Clock clock = eyeAt(eye).clock;
        mustHold(within(offset, -9999, 9999) && within(drift, -9999, 9999));
        int was = clock.offset;
        clock.put(offset, drift);
        return was;
    }

    public long call(int eye, int tick)
            throws IndexOutOfBoundsException, IllegalArgumentException, UnsupportedOperationException {
        Clock clock = eyeAt(eye).clock;
        mustHold(within(tick, 0, 999999));
        if (!clock.isCalledBefore(tick)) {
            throw new UnsupportedOperationException("the last call was not ahead of it");
        }
        return clock.ring(tick);
    }

    public long mended(int eye, int tick) throws IndexOutOfBoundsException {
        return eyeAt(eye).clock.mend(tick);
    }

    public int pulses() {
        return recorded.size();
    }

    public long pulseAt(int index, char what) throws IndexOutOfBoundsException, IllegalArgumentException {
        if (index < 0 || index >= recorded.size()) {
            throw new IndexOutOfBoundsException("there is no such pulse");
        }
        mustHold(what == 'e' || what == 't' || what == 'o' || what == 'q');
        putInOrder();
        Pulse pulse = recorded.get(index);
        if (what == 'e') {
            return pulse.eye.number;
        }
        if (what == 't') {
            return pulse.tick;
        }
        return what == 'o' ? pulse.own : pulse.charge;
    }

    public int wipe() {
        int were = recorded.size();
        recorded.clear();
        return were;
    }

    // ---- events

    public int setTrigger(int eyes, int window) throws IllegalArgumentException {
        mustHold(within(eyes, 2, 9) && within(window, 1, 9999));
        int was = found.leastEyes;
        found.leastEyes = eyes;
        found.window = window;
        return was;
    }

    public int setPartner(int reach, int ticks) throws IllegalArgumentException {
        mustHold(within(reach, 1, 99) && within(ticks, 1, 9999));
        int was = found.reach;
        found.reach = reach;
        found.apart = ticks;
        return was;
    }

    public int events() {
        findEvents();
        return found.count;
    }

    public long eventAt(int event, char what) throws IndexOutOfBoundsException, IllegalArgumentException {
        findWith(event);
        mustHold(what == 'f' || what == 'l' || what == 'n' || what == 'e' || what == 'q' || what == 'k');
        if (what == 'f') {
            return found.firstTick(event);
        }
        if (what == 'l') {
            return found.lastTick(event);
        }
        if (what == 'n') {
            return found.sizeOf(event);
        }
        if (what == 'e') {
            return found.unlikeEyes(found.firstOf(event), found.lastOf(event));
        }
        if (what == 'q') {
            return found.chargesOf(event);
        }
        fitTo(event);
        return fit.kept.size();
    }

    public int placeOf(int event, char axis)
            throws IndexOutOfBoundsException, IllegalArgumentException, NoSuchElementException {
        findWith(event);
        mustHold(isAxis(axis));
        fitKept(event);
        return (int) fit.mean.along(axis);
    }

    public int speedOf(int event, char axis)
            throws IndexOutOfBoundsException, IllegalArgumentException, NoSuchElementException {
        findWith(event);
        mustHold(isAxis(axis));
        fitKept(event);
        return (int) fit.speed.along(axis);
    }

    public char kindOf(int event) throws IndexOutOfBoundsException, NoSuchElementException {
        findWith(event);
        fitKept(event);
        return fit.kind();
    }

    public long energyOf(int event) throws IndexOutOfBoundsException, NoSuchElementException {
        findWith(event);
        fitKept(event);
        return energyIn(ice, fit.kept, fit.middle);
    }

    public boolean isVetoed(int event) throws IndexOutOfBoundsException {
        findWith(event);
        fitTo(event);
        return vetoes(event);
    }

    // ---- the sky

    public boolean vote(int ayes, int noes) throws IllegalArgumentException {
        mustHold(within(ayes, 0, 99) && within(noes, 0, 99));
        if (ayes > noes) {
            sky.open = true;
        }
        return sky.open;
    }

    public int look(int bin) throws IllegalArgumentException, IllegalStateException {
        mustHold(isBin(bin));
        mustBeOpen();
        fillBins();
        sky.trials++;
        return sky.inBin(bin);
    }

    public boolean claim(int bin)
            throws IllegalArgumentException, IllegalStateException, UnsupportedOperationException {
        mustHold(isBin(bin));
        mustBeOpen();
        if (sky.namedBy(bin) != Sky.NO_CLAIM) {
            throw new UnsupportedOperationException("it is claimed");
        }
        fillBins();
        sky.trials++;
        boolean made = sky.standsOut(bin);
        if (made) {
            sky.name(bin, sky.trials);
        }
        return made;
    }

    public int trialsOf(int bin) throws IllegalArgumentException, NoSuchElementException {
        mustHold(isBin(bin));
        int named = sky.namedBy(bin);
        if (named == Sky.NO_CLAIM) {
            throw new NoSuchElementException("it is not claimed");
        }
        return named;
    }

    public boolean takeBack(int bin) throws IllegalArgumentException {
        mustHold(isBin(bin));
        boolean was = sky.namedBy(bin) != Sky.NO_CLAIM;
        sky.name(bin, Sky.NO_CLAIM);
        return was;
    }

    public int trials() {
        return sky.trials;
    }

    // ---- days

    public int closeDay() throws IllegalStateException {
        if (closed.size() >= MOST_DAYS) {
            throw new IllegalStateException("there are 6 days");
        }
        findEvents();
        Day day = new Day();
        for (int i = 0; i < found.count && i < MOST_KEPT_EVENTS; i++) {
            fitTo(i);
            KeptEvent event = new KeptEvent(fit, found.firstTick(i), vetoes(i));
            event.measure(ice);
            day.events.add(event);
        }
        closed.add(day);
        recorded.clear();
        sky.open = false;
        return day.events.size();
    }

    public int days() {
        return closed.size();
    }

    public long keptAt(int day, int index, char what) throws IndexOutOfBoundsException, IllegalArgumentException {
        KeptEvent event = keptEventAt(day, index);
        mustHold(what == 'f' || what == 'e' || what == 'v' || what == 'i');
        if (what == 'f') {
            return event.tick;
        }
        if (what == 'e') {
            return event.energy;
        }
        if (what == 'v') {
            return event.vetoed ? 1 : 0;
        }
        return event.version;
    }

    public char keptKind(int day, int index) throws IndexOutOfBoundsException {
        return keptEventAt(day, index).kind;
    }

    public int redo(int day) throws IndexOutOfBoundsException {
        Day again = dayAt(day);
        int others = 0;
        for (int i = 0; i < again.events.size(); i++) {
            KeptEvent event = again.events.get(i);
            long before = event.energy;
            event.measure(ice);
            if (event.energy != before) {
                others++;
            }
        }
        return others;
    }

    // ---- figures

    public long checksum() {
        findEvents();
        long sum = 7;
        for (int i = 0; i < recorded.size(); i++) {
            Pulse pulse = recorded.get(i);
            sum = 31 * sum + pulse.tick;
            sum = 31 * sum + pulse.charge;
        }
        sum = 31 * sum + found.count;
        sum = 31 * sum + sky.trials;
        return 31 * sum + closed.size();
    }

    public float loudShare() throws ArithmeticException {
        int all = eyes.size();
        if (all == 0) {
            throw new ArithmeticException("there are no eyes");
        }
        int loud = 0;
        for (int i = 0; i < all; i++) {
            if (eyes.get(i).state == 'l') {
                loud++;
            }
        }
        return (float) loud / (float) all;
    }

    public double meanCharge() throws ArithmeticException {
        int all = recorded.size();
        if (all == 0) {
            throw new ArithmeticException("there are no pulses");
        }
        long sum = 0;
        for (int i = 0; i < all; i++) {
            sum += recorded.get(i).charge;
        }
        return (double) sum / (double) all;
    }

    public boolean isSound() {
        return cables.size() <= MOST_STRINGS && eyes.size() <= MOST_EYES && recorded.size() <= MOST_PULSES
                && closed.size() <= MOST_DAYS && within((int) lot, 1, (int) Z_MODULUS - 1) && sky.claimsHold();
    }

    // ---- what the calls share

    private static boolean within(int number, int least, int most) {
        return number >= least && number <= most;
    }

    private static boolean isPlace(int x, int y, int z) {
        return within(x, -FARTHEST, FARTHEST) && within(y, -FARTHEST, FARTHEST) && within(z, 0, DEEPEST);
    }

    private static boolean isAxis(char axis) {
        return axis == 'x' || axis == 'y' || axis == 'z';
    }

    private static boolean isBin(int bin) {
        return within(bin, 0, BINS - 1);
    }

    private static void mustHold(boolean condition) {
        if (!condition) {
            throw new IllegalArgumentException("a number is out of range, or there is no such thing");
        }
    }

    private void mustBeOpen() {
        if (!sky.open) {
            throw new IllegalStateException("the sky is closed");
        }
    }

    private Cable cableAt(int string) {
        if (string < 0 || string >= cables.size()) {
            throw new IndexOutOfBoundsException("there is no such string");
        }
        return cables.get(string);
    }

    private Eye eyeAt(int eye) {
        if (eye < 0 || eye >= eyes.size()) {
            throw new IndexOutOfBoundsException("there is no such eye");
        }
        return eyes.get(eye);
    }

    private Day dayAt(int day) {
        if (day < 0 || day >= closed.size()) {
            throw new IndexOutOfBoundsException("there is no such day");
        }
        return closed.get(day);
    }

    private KeptEvent keptEventAt(int day, int index) {
        Day of = dayAt(day);
        if (index < 0 || index >= of.events.size()) {
            throw new IndexOutOfBoundsException("there is no such event of the day");
        }
        return of.events.get(index);
    }

    /** A number divided by another and cut toward 0; 0 where there is nothing to divide by. */
    private static long cut(long number, long divisor) {
        return divisor == 0 ? 0 : number / divisor;
    }

    private long nextLot() {
        lot = lot * Z_FACTOR % Z_MODULUS;
        return lot;
    }

    /** Sends light from the source and behind each stride; returns 1 if a pulse of it is kept, else 0. */
    private int sendTo(Eye eye, int steps, int strength, int tick) {
        int charges = 0;
        int earliest = 0;
        for (int i = 0; i <= steps; i++) {
            int charge = ice.chargeBetween(source, eye.place, strength);
            if (charge > 0) {
                int comes = tick + 5 * i + ice.delayBetween(source, eye.place);
                earliest = charges == 0 ? comes : Math.min(earliest, comes);
                charges += charge;
            }
            source.move(stride);
        }
        return record(eye, earliest, Math.min(charges, MOST_CHARGE));
    }

    private int record(Eye eye, int tick, int charge) {
        if (eye.state == 'd' || charge < 1 || recorded.size() >= MOST_PULSES) {
            return 0;
        }
        recorded.add(new Pulse(eye, eye.clock.ownOf(tick), charge, arrivals));
        arrivals++;
        return 1;
    }

    /** Mended ticks change with calls and clocks, so pulses are mended and ordered whenever they are asked for. */
    private void putInOrder() {
        for (int i = 0; i < recorded.size(); i++) {
            Pulse moved = recorded.get(i);
            moved.tick = moved.eye.clock.mend(moved.own);
            int to = i;
            while (to > 0 && moved.isAheadOf(recorded.get(to - 1))) {
                recorded.set(to, recorded.get(to - 1));
                to--;
            }
            recorded.set(to, moved);
        }
    }

    private void findEvents() {
        putInOrder();
        found.find(recorded);
    }

    private void findWith(int event) {
        findEvents();
        if (event < 0 || event >= found.count) {
            throw new IndexOutOfBoundsException("there is no such event");
        }
    }

    private void fitTo(int event) {
        found.markPartners(event);
        fit.take(found.good, found.firstOf(event), found.lastOf(event));
    }

    private void fitKept(int event) {
        fitTo(event);
        if (fit.kept.isEmpty()) {
            throw new NoSuchElementException("no pulse of it is kept");
        }
    }

    /** Asks of the event that was fitted last. */
    private boolean vetoes(int event) {
        return found.beginsOutside(event) || fit.isTrack() && fit.speed.z > 0;
    }

    private void fillBins() {
        findEvents();
        sky.emptyBins();
        for (int i = 0; i < found.count; i++) {
            fitTo(i);
            if (fit.isTrack() && !vetoes(i)) {
                sky.putIn(fit.bin());
            }
        }
    }

    private static long energyIn(Ice ice, ArrayList<Pulse> pulses, Place from) {
        long sum = 0;
        for (int i = 0; i < pulses.size(); i++) {
            Pulse pulse = pulses.get(i);
            sum += ice.sentFor(pulse.charge, from, pulse.eye.place);
        }
        return sum / 1000;
    }

    /** A place, in whole ones or in hundredths, or a step or a speed on each axis. */
    private static final class Place {
        long x;
        long y;
        long z;

        void put(long newX, long newY, long newZ) {
            x = newX;
            y = newY;
            z = newZ;
        }

        void move(Place by) {
            put(x + by.x, y + by.y, z + by.z);
        }

        long along(char axis) {
            return axis == 'x' ? x : axis == 'y' ? y : z;
        }

        long squareTo(Place other) {
            return (x - other.x) * (x - other.x) + (y - other.y) * (y - other.y) + (z - other.z) * (z - other.z);
        }

        int distanceTo(Place other) {
            long square = squareTo(other);
            int root = 0;
            // No two places that a call can bring about are 512 apart, so nine bits hold the root.
            for (int bit = 256; bit > 0; bit /= 2) {
                if ((root + bit) * (root + bit) <= square) {
                    root += bit;
                }
            }
            return root;
        }
    }

    /** A string of eyes; its name leaves String to the library. */
    private static final class Cable {
        final int x;
        final int y;
        boolean outer;

        Cable(int x, int y) {
            this.x = x;
            this.y = y;
        }
    }

    private static final class Eye {
        final int number;
        final Cable cable;
        final Place place = new Place();
        final Clock clock = new Clock();
        char state = 'g';

        Eye(int number, Cable cable, int z) {
            this.number = number;
            this.cable = cable;
            place.put(cable.x, cable.y, z);
        }
    }

    private static final class Clock {
        int offset;
        private int drift;
        private int calls;
        private long firstTrue;
        private long firstOwn;
        private long lastTrue;
        private long lastOwn;

        void put(int newOffset, int newDrift) {
            offset = newOffset;
            drift = newDrift;
            calls = 0;
        }

        long ownOf(long tick) {
            return tick + offset + tick * drift / 1000000;
        }

        boolean isCalledBefore(int tick) {
            return calls == 0 || lastTrue < tick;
        }

        long ring(int tick) {
            firstTrue = lastTrue;
            firstOwn = lastOwn;
            lastTrue = tick;
            lastOwn = ownOf(tick);
            calls = Math.min(calls + 1, 2);
            return lastOwn;
        }

        long mend(long own) {
            if (calls == 0) {
                return own;
            }
            if (calls == 1 || firstOwn == lastOwn) {
                return lastTrue + (own - lastOwn);
            }
            return firstTrue + cut((own - firstOwn) * (lastTrue - firstTrue), lastOwn - firstOwn);
        }
    }

    private static final class Pulse {
        final Eye eye;
        final long own;
        final int charge;
        final int arrival;
        long tick;
        boolean partnered;

        Pulse(Eye eye, long own, int charge, int arrival) {
            this.eye = eye;
            this.own = own;
            this.charge = charge;
            this.arrival = arrival;
        }

        boolean isAheadOf(Pulse other) {
            if (tick != other.tick) {
                return tick < other.tick;
            }
            if (eye.number != other.eye.number) {
                return eye.number < other.eye.number;
            }
            return arrival < other.arrival;
        }
    }

    private static final class Ice {
        private static final int MOST_LAYERS = 6;
        private static final int NONE = -1;

        private final int[] from = new int[MOST_LAYERS];
        private final int[] scattering = new int[MOST_LAYERS];
        private final int[] eaten = new int[MOST_LAYERS];
        private int layers;
        int told;

        boolean hasRoomFor(int depth) {
            return layers < MOST_LAYERS || layerBeginningAt(depth) != NONE;
        }

        int tell(int depth, int newScattering, int newEaten) {
            int layer = layerBeginningAt(depth);
            if (layer == NONE) {
                layer = layers;
            }
            if (layer >= 0 && layer < MOST_LAYERS) {
                from[layer] = depth;
                scattering[layer] = newScattering;
                eaten[layer] = newEaten;
                layers = Math.max(layers, layer + 1);
                told++;
            }
            return layers;
        }

        private int layerBeginningAt(int depth) {
            for (int i = 0; i < layers && i < MOST_LAYERS; i++) {
                if (from[i] == depth) {
                    return i;
                }
            }
            return NONE;
        }

        private int layerWith(long depth) {
            int best = NONE;
            for (int i = 0; i < layers && i < MOST_LAYERS; i++) {
                if (from[i] <= depth && (best == NONE || from[i] > from[best])) {
                    best = i;
                }
            }
            return best;
        }

        int scatteringIn(long depth) {
            int layer = layerWith(depth);
            return layer >= 0 && layer < MOST_LAYERS ? scattering[layer] : 10;
        }

        private int eatenIn(long depth) {
            int layer = layerWith(depth);
            return layer >= 0 && layer < MOST_LAYERS ? eaten[layer] : 5;
        }

        private static long depthBetween(Place one, Place other) {
            return (one.z + other.z) / 2;
        }

        int chargeBetween(Place source, Place eye, int strength) {
            int left = 100 - eatenIn(depthBetween(source, eye));
            int distance = source.distanceTo(eye);
            long charge = cut(1000L * strength, 1 + source.squareTo(eye));
            for (int i = 0; i < distance && charge > 0; i++) {
                charge = charge * left / 100;
            }
            return (int) Math.min(charge, MOST_CHARGE);
        }

        int delayBetween(Place source, Place eye) {
            int distance = source.distanceTo(eye);
            return 10 * distance + scatteringIn(depthBetween(source, eye)) * distance * distance / 100;
        }

        long sentFor(int charge, Place source, Place eye) {
            int left = 100 - eatenIn(depthBetween(source, eye));
            int distance = source.distanceTo(eye);
            long sent = charge * (1 + source.squareTo(eye));
            for (int i = 0; i < distance; i++) {
                sent = cut(sent * 100, left);
            }
            return sent;
        }
    }

    /** The events among pulses in order; an event runs from one of the good pulses to another. */
    private static final class Events {
        final ArrayList<Pulse> good = new ArrayList<>();
        private final int[] first = new int[MOST_PULSES];
        private final int[] last = new int[MOST_PULSES];
        int count;
        int leastEyes = 4;
        int window = 500;
        int reach = 20;
        int apart = 300;

        void find(ArrayList<Pulse> inOrder) {
            good.clear();
            for (int i = 0; i < inOrder.size(); i++) {
                Pulse pulse = inOrder.get(i);
                if (pulse.eye.state == 'g') {
                    good.add(pulse);
                }
            }
            count = 0;
            int end = 0;
            for (int i = 0; i < good.size(); i++) {
                end = endOfWindow(i, end);
                if (unlikeEyes(i, end) >= leastEyes) {
                    join(i, end);
                }
            }
        }

        /** Ticks never fall, so the end of a window is not before that of the window ahead of it. */
        private int endOfWindow(int from, int endAhead) {
            int end = Math.max(from, endAhead);
            while (end + 1 < good.size() && good.get(end + 1).tick <= good.get(from).tick + window) {
                end++;
            }
            return end;
        }

        int unlikeEyes(int from, int to) {
            int seen = 0;
            for (int i = Math.max(from, 0); i <= to && i < good.size(); i++) {
                seen |= 1 << good.get(i).eye.number;
            }
            return Integer.bitCount(seen);
        }

        /** Triggers come by their first pulses, and their last ones never go back: only the newest event can share. */
        private void join(int from, int to) {
            if (count > 0 && count <= MOST_PULSES && from <= last[count - 1]) {
                last[count - 1] = to;
            } else if (count >= 0 && count < MOST_PULSES) {
                first[count] = from;
                last[count] = to;
                count++;
            }
        }

        int firstOf(int event) {
            return event >= 0 && event < MOST_PULSES ? first[event] : 0;
        }

        int lastOf(int event) {
            return event >= 0 && event < MOST_PULSES ? last[event] : 0;
        }

        int sizeOf(int event) {
            return lastOf(event) - firstOf(event) + 1;
        }

        long firstTick(int event) {
            int at = firstOf(event);
            return at >= 0 && at < good.size() ? good.get(at).tick : 0;
        }

        long lastTick(int event) {
            int at = lastOf(event);
            return at >= 0 && at < good.size() ? good.get(at).tick : 0;
        }

        boolean beginsOutside(int event) {
            int at = firstOf(event);
            return at >= 0 && at < good.size() && good.get(at).eye.cable.outer;
        }

        long chargesOf(int event) {
            long sum = 0;
            for (int i = Math.max(firstOf(event), 0); i <= lastOf(event) && i < good.size(); i++) {
                sum += good.get(i).charge;
            }
            return sum;
        }

        void markPartners(int event) {
            int from = Math.max(firstOf(event), 0);
            int to = Math.min(lastOf(event), good.size() - 1);
            for (int i = from; i <= to; i++) {
                good.get(i).partnered = false;
            }
            for (int i = from; i <= to; i++) {
                for (int j = i + 1; j <= to && good.get(j).tick - good.get(i).tick <= apart; j++) {
                    pair(good.get(i), good.get(j));
                }
            }
        }

        private void pair(Pulse one, Pulse other) {
            if (one.partnered && other.partnered || one.eye == other.eye) {
                return;
            }
            // A distance is cut, so it is at most the reach as long as the square is below that of one more.
            if (one.eye.place.squareTo(other.eye.place) < (reach + 1) * (reach + 1)) {
                one.partnered = true;
                other.partnered = true;
            }
        }
    }

    /** What the kept pulses of one event tell; made once and filled anew for each event that is asked for. */
    private static final class Fit {
        private static final long LEAST_SQUARE_OF_TRACK = 25000000L;

        final ArrayList<Pulse> kept = new ArrayList<>();
        final Place mean = new Place();
        final Place middle = new Place();
        final Place speed = new Place();
        private long charges;
        private long tick;
        private long spread;

        void take(ArrayList<Pulse> pulses, int first, int last) {
            kept.clear();
            for (int i = first; i >= 0 && i <= last && i < pulses.size(); i++) {
                if (pulses.get(i).partnered) {
                    kept.add(pulses.get(i));
                }
            }
            charges = 0;
            long ticks = 0;
            for (int i = 0; i < kept.size(); i++) {
                Pulse pulse = kept.get(i);
                charges += pulse.charge;
                ticks += pulse.charge * pulse.tick;
            }
            tick = cut(ticks, charges);
            mean.put(meanAlong('x'), meanAlong('y'), meanAlong('z'));
            middle.put(mean.x / 100, mean.y / 100, mean.z / 100);
            spread = spreadOfTicks();
            speed.put(speedAlong('x'), speedAlong('y'), speedAlong('z'));
        }

        private long meanAlong(char axis) {
            long sum = 0;
            for (int i = 0; i < kept.size(); i++) {
                sum += kept.get(i).charge * kept.get(i).eye.place.along(axis);
            }
            return cut(100 * sum, charges);
        }

        private long spreadOfTicks() {
            long sum = 0;
            for (int i = 0; i < kept.size(); i++) {
                long late = kept.get(i).tick - tick;
                sum += kept.get(i).charge * late * late;
            }
            return sum;
        }

        private long speedAlong(char axis) {
            long sum = 0;
            for (int i = 0; i < kept.size(); i++) {
                Pulse pulse = kept.get(i);
                sum += pulse.charge * (pulse.tick - tick) * (100 * pulse.eye.place.along(axis) - mean.along(axis));
            }
            return cut(1000 * sum, spread);
        }

        boolean isTrack() {
            return speed.x * speed.x + speed.y * speed.y + speed.z * speed.z >= LEAST_SQUARE_OF_TRACK;
        }

        char kind() {
            return isTrack() ? 't' : 'b';
        }

        int bin() {
            return (speed.x >= 0 ? 4 : 0) + (speed.y >= 0 ? 2 : 0) + (speed.z >= 0 ? 1 : 0);
        }
    }

    private static final class Sky {
        /** A claim is a look itself, so one that stands names 1 trial at least. */
        static final int NO_CLAIM = 0;

        private final int[] bins = new int[BINS];
        private final int[] named = new int[BINS];
        private int all;
        int trials;
        boolean open;

        void emptyBins() {
            for (int i = 0; i < BINS; i++) {
                bins[i] = 0;
            }
            all = 0;
        }

        void putIn(int bin) {
            if (isBin(bin)) {
                bins[bin]++;
                all++;
            }
        }

        int inBin(int bin) {
            return isBin(bin) ? bins[bin] : 0;
        }

        boolean standsOut(int bin) {
            return inBin(bin) >= 2 && 8 * inBin(bin) >= 3 * all;
        }

        int namedBy(int bin) {
            return isBin(bin) ? named[bin] : NO_CLAIM;
        }

        void name(int bin, int trialsByThen) {
            if (isBin(bin)) {
                named[bin] = trialsByThen;
            }
        }

        boolean claimsHold() {
            for (int i = 0; i < BINS; i++) {
                if (named[i] < NO_CLAIM || named[i] > trials) {
                    return false;
                }
            }
            return true;
        }
    }

    /** An event of a closed day, with the pulses by which its energy can be found again. */
    private static final class KeptEvent {
        final long tick;
        final boolean vetoed;
        final char kind;
        private final Place middle = new Place();
        private final ArrayList<Pulse> pulses = new ArrayList<>();
        long energy;
        int version;

        KeptEvent(Fit fit, long tick, boolean vetoed) {
            this.tick = tick;
            this.vetoed = vetoed;
            kind = fit.kept.isEmpty() ? '-' : fit.kind();
            middle.put(fit.middle.x, fit.middle.y, fit.middle.z);
            for (int i = 0; i < fit.kept.size(); i++) {
                pulses.add(fit.kept.get(i));
            }
        }

        void measure(Ice ice) {
            energy = energyIn(ice, pulses, middle);
            version = ice.told;
        }
    }

    private static final class Day {
        final ArrayList<KeptEvent> events = new ArrayList<>();
    }
}
