import java.util.ArrayList;
import java.util.NoSuchElementException;

/**
 * A bench of circuits and their simulation. The face tests what it is given and throws; the circuit
 * holds what was built, the simulation lets time pass over it, and the rows try it out.
 */
public final class Deltacycle {
    private static final int MOST_NETS = 40;
    private static final int MOST_SOURCES = 8;
    private static final int MOST_OPEN_GATES = 4;
    private static final int MOST_TESTS = 8;
    private static final int MOST_DELAY = 9;
    private static final int MOST_PERIOD = 99;
    private static final int MOST_STEPS = 100;
    private static final int LAST_TIME = 9999;

    /** Without rings a step settles in fewer rounds than there are nets; this only bounds the loop. */
    private static final int MOST_ROUNDS = 1000000;

    /** Told apart from the kinds that addGate takes, so that no gate is taken for an open gate. */
    private static final char OPEN = 'o';

    private final Circuit circuit;
    private final Simulation simulation;
    private final Rows rows;

    public Deltacycle() {
        circuit = new Circuit();
        simulation = new Simulation(circuit);
        rows = new Rows(circuit);
    }

    // Building

    public int addInput() throws UnsupportedOperationException, IllegalStateException {
        requireRoomForSource();
        requireRoomForNet();
        Net input = circuit.makeNet(NetKind.INPUT);
        startAnew();
        return input.number;
    }

    public int addGate(char kind, int first, int second, int delay)
            throws IllegalArgumentException, IndexOutOfBoundsException, IllegalStateException {
        if (!isGateKind(kind) || !isDelay(delay)) {
            throw new IllegalArgumentException("no such kind, or no such delay");
        }
        Net read = netAt(first);
        Net other = kind == '~' || kind == '=' ? read : netAt(second);
        requireRoomForNet();
        Net output = circuit.makeNet(NetKind.GATE);
        circuit.makeGate(new Gate(kind, read, other, output, delay));
        startAnew();
        return output.number;
    }

    public int addBus() throws IllegalStateException {
        requireRoomForNet();
        Net bus = circuit.makeNet(NetKind.BUS);
        startAnew();
        return bus.number;
    }

    public int addOpen(int bus, int first, int opener, int delay)
            throws IllegalArgumentException, IndexOutOfBoundsException, UnsupportedOperationException,
                    IllegalStateException {
        if (!isDelay(delay)) {
            throw new IllegalArgumentException("no such delay");
        }
        Net driven = netOfKind(bus, NetKind.BUS);
        Net read = netAt(first);
        Net opening = netAt(opener);
        if (circuit.wouldRing(driven, read, opening)) {
            throw new UnsupportedOperationException("there would be a ring");
        }
        if (driven.drivers.size() >= MOST_OPEN_GATES) {
            throw new IllegalStateException("the bus is full");
        }
        circuit.makeGate(new Gate(OPEN, read, opening, driven, delay));
        startAnew();
        return driven.drivers.size();
    }

    public int addRegister() throws UnsupportedOperationException, IllegalStateException {
        requireRoomForSource();
        requireRoomForNet();
        Net register = circuit.makeNet(NetKind.REGISTER);
        startAnew();
        return register.number;
    }

    public int connect(int register, int net) throws IndexOutOfBoundsException {
        Net connected = netOfKind(register, NetKind.REGISTER);
        Net taken = netAt(net);
        int before = connected.taken == null ? -1 : connected.taken.number;
        connected.taken = taken;
        startAnew();
        return before;
    }

    public boolean mark(int net, boolean isMarked) throws IndexOutOfBoundsException {
        Net found = netAt(net);
        boolean wasMarked = found.isMarked;
        found.isMarked = isMarked;
        return wasMarked;
    }

    // Time

    public char setInput(int input, char value) throws IndexOutOfBoundsException, IllegalArgumentException {
        Net set = netOfKind(input, NetKind.INPUT);
        if (!isKnown(value) && value != 'x' && value != 'z') {
            throw new IllegalArgumentException("no such value");
        }
        char before = set.value;
        simulation.changeSource(set, value);
        return before;
    }

    public int tick() {
        return simulation.takeAll();
    }

    public char reset(int register, char value) throws IndexOutOfBoundsException, IllegalArgumentException {
        Net set = netOfKind(register, NetKind.REGISTER);
        requireKnown(value);
        char before = set.value;
        simulation.changeSource(set, value);
        return before;
    }

    public int pass(int steps) throws IllegalArgumentException, IllegalStateException {
        if (steps < 1 || steps > MOST_STEPS) {
            throw new IllegalArgumentException("no such number of steps");
        }
        if (simulation.time + steps > LAST_TIME) {
            throw new IllegalStateException("the time would be too great");
        }
        simulation.goOn(steps);
        return simulation.time;
    }

    public char value(int net) throws IndexOutOfBoundsException {
        return netAt(net).value;
    }

    public int changes(int net) throws IndexOutOfBoundsException {
        return netAt(net).changeCount;
    }

    public int lastChange(int net) throws IndexOutOfBoundsException, NoSuchElementException {
        Net found = netAt(net);
        if (found.changeCount == 0) {
            throw new NoSuchElementException("the net has not changed");
        }
        return found.changedAt;
    }

    public int pending() {
        return simulation.countToCome();
    }

    public char settled(int net) throws IndexOutOfBoundsException {
        Net found = netAt(net);
        circuit.settleAsNow();
        return found.trial;
    }

    // Delays and standing

    public int arrival(int net) throws IndexOutOfBoundsException {
        return netAt(net).arrival;
    }

    public int slack(int net, int period) throws IndexOutOfBoundsException, IllegalArgumentException {
        Net found = netAt(net);
        if (period < 1 || period > MOST_PERIOD) {
            throw new IllegalArgumentException("no such period");
        }
        return period - found.arrival - found.delayBehind;
    }

    public int stands(int net) throws IndexOutOfBoundsException {
        return netAt(net).standsFor.number;
    }

    public int differs(int first, int second) throws IndexOutOfBoundsException {
        Net one = netAt(first);
        Net other = netAt(second);
        return rows.leastTellingApart(one, other);
    }

    // Tests

    public boolean shows(int net, char value, int row)
            throws IndexOutOfBoundsException, IllegalArgumentException, NoSuchElementException {
        Net stuck = netAt(net);
        requireKnown(value);
        requireRow(row);
        return rows.isStuckShown(stuck, value, row);
    }

    public int findTest(int net, char value)
            throws IndexOutOfBoundsException, IllegalArgumentException, NoSuchElementException {
        Net stuck = netAt(net);
        requireKnown(value);
        int row = rows.leastShowing(stuck, value);
        if (row < 0) {
            throw new NoSuchElementException("no row shows it");
        }
        return row;
    }

    public int addTest(int row) throws NoSuchElementException, IllegalStateException {
        requireRow(row);
        if (rows.testCount >= MOST_TESTS) {
            throw new IllegalStateException("there are no more tests");
        }
        rows.keepTest(row);
        return rows.testCount;
    }

    public int shown() {
        int count = 0;
        for (int i = 0; i < circuit.nets.size(); i++) {
            Net net = circuit.nets.get(i);
            count += rows.isShownBySomeTest(net, '0') ? 1 : 0;
            count += rows.isShownBySomeTest(net, '1') ? 1 : 0;
        }
        return count;
    }

    // Figures

    public long activity() {
        long sum = 0;
        for (int i = 0; i < circuit.nets.size(); i++) {
            Net net = circuit.nets.get(i);
            sum += (long) net.changeCount * (net.readerCount + 1);
        }
        return sum;
    }

    public float knownShare() throws ArithmeticException {
        requireSomeNet();
        int known = 0;
        for (int i = 0; i < circuit.nets.size(); i++) {
            if (isKnown(circuit.nets.get(i).value)) {
                known++;
            }
        }
        return (float) known / (float) circuit.nets.size();
    }

    public double meanArrival() throws ArithmeticException {
        requireSomeNet();
        int sum = 0;
        for (int i = 0; i < circuit.nets.size(); i++) {
            sum += circuit.nets.get(i).arrival;
        }
        return (double) sum / (double) circuit.nets.size();
    }

    public boolean isSound() {
        boolean isAtRest = simulation.countToCome() == 0;
        if (isAtRest && !circuit.isSettled()) {
            return false;
        }
        return rows.areStandingsKept();
    }

    // What the face asks of its arguments and its state

    private void startAnew() {
        circuit.layOut();
        simulation.restart();
    }

    private Net netAt(int number) {
        if (number < 0 || number >= circuit.nets.size()) {
            throw new IndexOutOfBoundsException("no such net");
        }
        return circuit.nets.get(number);
    }

    private Net netOfKind(int number, NetKind kind) {
        Net net = netAt(number);
        if (net.kind != kind) {
            throw new IndexOutOfBoundsException("the net is of another kind");
        }
        return net;
    }

    private void requireRoomForSource() {
        if (circuit.sources.size() >= MOST_SOURCES) {
            throw new UnsupportedOperationException("there are no more inputs and registers");
        }
    }

    private void requireRoomForNet() {
        if (circuit.nets.size() >= MOST_NETS) {
            throw new IllegalStateException("there are no more nets");
        }
    }

    private void requireSomeNet() {
        if (circuit.nets.isEmpty()) {
            throw new ArithmeticException("there are no nets");
        }
    }

    private void requireRow(int row) {
        if (row < 0 || row >= rows.rowCount()) {
            throw new NoSuchElementException("no such row");
        }
    }

    private static void requireKnown(char value) {
        if (!isKnown(value)) {
            throw new IllegalArgumentException("no '0' or '1'");
        }
    }

    private static boolean isKnown(char value) {
        return value == '0' || value == '1';
    }

    private static boolean isGateKind(char kind) {
        return kind == '~' || kind == '=' || kind == '&' || kind == '|' || kind == '^';
    }

    private static boolean isDelay(int delay) {
        return delay >= 0 && delay <= MOST_DELAY;
    }

    private enum NetKind { INPUT, GATE, BUS, REGISTER }

    /** A net with what drives it, what it has now, and what is reckoned of it when something is built. */
    private static final class Net {
        final int number;
        final NetKind kind;
        final ArrayList<Gate> drivers = new ArrayList<>();

        /** What a register takes; null as long as it takes nothing, and for all other nets. */
        Net taken;

        boolean isTaken;
        boolean isMarked;

        char value;
        char next;
        int changeCount;
        int changedAt;
        boolean isChanged;

        /** What the net settles to in the trial that was made last, and in the one kept before it. */
        char trial;

        char keptTrial;

        int readerCount;
        int arrival;
        int delayBehind;
        Net standsFor;
        boolean isPlaced;
        boolean isReached;

        Net(int number, NetKind kind) {
            this.number = number;
            this.kind = kind;
            value = 'x';
            next = 'x';
            trial = 'x';
            keptTrial = 'x';
            standsFor = this;
        }

        boolean isSource() {
            return kind == NetKind.INPUT || kind == NetKind.REGISTER;
        }

        boolean isWatched() {
            return isMarked || isTaken;
        }

        void restart() {
            value = trial;
            changeCount = 0;
            changedAt = 0;
            isChanged = false;
        }

        /** For a gate's output this is what its one gate gave, since a gate never gives 'z'. */
        char drivenValue() {
            char joined = 'z';
            for (int i = 0; i < drivers.size(); i++) {
                joined = join(joined, drivers.get(i).gave);
            }
            return joined;
        }

        char drivenTrial() {
            char joined = 'z';
            for (int i = 0; i < drivers.size(); i++) {
                Gate driver = drivers.get(i);
                joined = join(joined, driver.gives(driver.first.trial, driver.second.trial));
            }
            return joined;
        }

        private static char join(char one, char other) {
            if (one == 'z') {
                return other;
            }
            return other == 'z' || other == one ? one : 'x';
        }

        boolean readsOnlyPlaced() {
            for (int i = 0; i < drivers.size(); i++) {
                Gate driver = drivers.get(i);
                if (!driver.first.isPlaced || !driver.second.isPlaced) {
                    return false;
                }
            }
            return true;
        }

        boolean readsReached() {
            for (int i = 0; i < drivers.size(); i++) {
                Gate driver = drivers.get(i);
                if (driver.first.isReached || driver.second.isReached) {
                    return true;
                }
            }
            return false;
        }

        int latestArrival() {
            int latest = 0;
            for (int i = 0; i < drivers.size(); i++) {
                Gate driver = drivers.get(i);
                latest = Math.max(latest, Math.max(driver.first.arrival, driver.second.arrival) + driver.delay);
            }
            return latest;
        }

        void lengthenWaysOfRead() {
            for (int i = 0; i < drivers.size(); i++) {
                Gate driver = drivers.get(i);
                int way = driver.delay + delayBehind;
                driver.first.delayBehind = Math.max(driver.first.delayBehind, way);
                driver.second.delayBehind = Math.max(driver.second.delayBehind, way);
            }
        }
    }

    /**
     * A gate, or an open gate, whose second net then is the one that opens it. A gate that reads one
     * net has this one as its second, too, so that there always are two.
     */
    private static final class Gate {
        final char kind;
        final Net first;
        final Net second;
        final Net output;
        final int delay;

        char gave;
        boolean isToCome;
        char coming;
        int comesAt;

        Gate(char kind, Net first, Net second, Net output, int delay) {
            this.kind = kind;
            this.first = first;
            this.second = second;
            this.output = output;
            this.delay = delay;
            gave = 'x';
            coming = 'x';
        }

        char gives(char firstValue, char secondValue) {
            char one = firstValue == 'z' ? 'x' : firstValue;
            char other = secondValue == 'z' ? 'x' : secondValue;
            if (kind == '&') {
                return one == '0' || other == '0' ? '0' : one == '1' && other == '1' ? '1' : 'x';
            }
            if (kind == '|') {
                return one == '1' || other == '1' ? '1' : one == '0' && other == '0' ? '0' : 'x';
            }
            if (kind == '^') {
                return one == 'x' || other == 'x' ? 'x' : one == other ? '0' : '1';
            }
            if (kind == '~') {
                return one == 'x' ? 'x' : one == '0' ? '1' : '0';
            }
            if (kind == OPEN) {
                return other == '1' ? one : other == '0' ? 'z' : 'x';
            }
            return one;
        }

        void restart() {
            gave = gives(first.value, second.value);
            isToCome = false;
        }

        void lookAt(int time) {
            char given = gives(first.value, second.value);
            if (given == gave) {
                isToCome = false;
            } else if (!isToCome || given != coming) {
                isToCome = true;
                coming = given;
                comesAt = time + delay;
            }
        }

        boolean isDue(int time) {
            return isToCome && comesAt == time;
        }

        void come() {
            gave = coming;
            isToCome = false;
        }
    }

    /** What was built, and what follows from how it hangs together. */
    private static final class Circuit {
        final ArrayList<Net> nets = new ArrayList<>();

        /** The inputs and registers by rising numbers, which is the order of the bits of a row. */
        final ArrayList<Net> sources = new ArrayList<>();

        /** The gates and open gates as they were made, so that the outputs of gates rise. */
        final ArrayList<Gate> gates = new ArrayList<>();

        /** All nets, each behind those that its gates read. */
        final ArrayList<Net> order = new ArrayList<>();

        Net makeNet(NetKind kind) {
            Net net = new Net(nets.size(), kind);
            nets.add(net);
            if (net.isSource()) {
                sources.add(net);
            }
            return net;
        }

        void makeGate(Gate gate) {
            gates.add(gate);
            gate.output.drivers.add(gate);
        }

        void layOut() {
            putInOrder();
            countReaders();
            reckonDelays();
            findStandings();
            findTaken();
        }

        private void putInOrder() {
            order.clear();
            for (int i = 0; i < nets.size(); i++) {
                nets.get(i).isPlaced = false;
            }
            for (int sweep = 0; sweep < MOST_NETS && order.size() < nets.size(); sweep++) {
                placeThoseReady();
            }
        }

        private void placeThoseReady() {
            for (int i = 0; i < nets.size(); i++) {
                Net net = nets.get(i);
                if (!net.isPlaced && net.readsOnlyPlaced()) {
                    net.isPlaced = true;
                    order.add(net);
                }
            }
        }

        private void countReaders() {
            for (int i = 0; i < nets.size(); i++) {
                nets.get(i).readerCount = 0;
            }
            for (int i = 0; i < gates.size(); i++) {
                Gate gate = gates.get(i);
                gate.first.readerCount++;
                if (gate.second != gate.first) {
                    gate.second.readerCount++;
                }
            }
        }

        private void reckonDelays() {
            for (int i = 0; i < order.size(); i++) {
                Net net = order.get(i);
                net.arrival = net.latestArrival();
                net.delayBehind = 0;
            }
            for (int i = order.size() - 1; i >= 0; i--) {
                order.get(i).lengthenWaysOfRead();
            }
        }

        /** A gate reads nets that were made before it, so its turn comes behind theirs. */
        private void findStandings() {
            for (int i = 0; i < nets.size(); i++) {
                nets.get(i).standsFor = nets.get(i);
            }
            for (int i = 0; i < gates.size(); i++) {
                Gate gate = gates.get(i);
                if (gate.kind != OPEN) {
                    Net simpler = simplerNet(gate);
                    boolean isSimpler = simpler != null && simpler.kind != NetKind.BUS;
                    gate.output.standsFor = isSimpler ? simpler : lowestAlike(gate);
                }
            }
        }

        /** The net that the output stands for by the first rules, or null if none of them holds. */
        private static Net simplerNet(Gate gate) {
            Net one = gate.first.standsFor;
            if (gate.kind == '=') {
                return one;
            }
            if (gate.kind == '~') {
                return negatedBy(one);
            }
            boolean isOfTheSame = (gate.kind == '&' || gate.kind == '|') && one == gate.second.standsFor;
            return isOfTheSame ? one : null;
        }

        private static Net negatedBy(Net net) {
            if (net.drivers.isEmpty()) {
                return null;
            }
            Gate driver = net.drivers.get(0);
            return driver.kind == '~' ? driver.first.standsFor : null;
        }

        private Net lowestAlike(Gate gate) {
            for (int i = 0; i < gates.size(); i++) {
                Gate lower = gates.get(i);
                if (lower.kind == gate.kind && readAlike(lower, gate)) {
                    return lower.output;
                }
            }
            return gate.output;
        }

        private static boolean readAlike(Gate gate, Gate other) {
            Net first = gate.first.standsFor;
            Net second = gate.second.standsFor;
            Net otherFirst = other.first.standsFor;
            Net otherSecond = other.second.standsFor;
            return first == otherFirst && second == otherSecond
                    || first == otherSecond && second == otherFirst;
        }

        private void findTaken() {
            for (int i = 0; i < nets.size(); i++) {
                nets.get(i).isTaken = false;
            }
            for (int i = 0; i < sources.size(); i++) {
                Net taken = sources.get(i).taken;
                if (taken != null) {
                    taken.isTaken = true;
                }
            }
        }

        boolean wouldRing(Net bus, Net first, Net opener) {
            for (int i = 0; i < order.size(); i++) {
                Net net = order.get(i);
                net.isReached = net == bus || net.readsReached();
            }
            return first.isReached || opener.isReached;
        }

        void settleAsNow() {
            for (int i = 0; i < sources.size(); i++) {
                Net source = sources.get(i);
                source.trial = source.value;
            }
            settle(null, 'x');
        }

        /** Settles all nets by what the sources have on trial; a net that is stuck (or null) has what is told. */
        void settle(Net stuck, char told) {
            for (int i = 0; i < order.size(); i++) {
                Net net = order.get(i);
                if (net == stuck) {
                    net.trial = told;
                } else if (!net.isSource()) {
                    net.trial = net.drivenTrial();
                }
            }
        }

        boolean isSettled() {
            settleAsNow();
            for (int i = 0; i < nets.size(); i++) {
                Net net = nets.get(i);
                if (net.value != net.trial) {
                    return false;
                }
            }
            return true;
        }
    }

    /** The time, and the changes that come with it. */
    private static final class Simulation {
        private final Circuit circuit;
        int time;

        Simulation(Circuit circuit) {
            this.circuit = circuit;
        }

        void restart() {
            time = 0;
            for (int i = 0; i < circuit.sources.size(); i++) {
                circuit.sources.get(i).trial = 'x';
            }
            circuit.settle(null, 'x');
            for (int i = 0; i < circuit.nets.size(); i++) {
                circuit.nets.get(i).restart();
            }
            for (int i = 0; i < circuit.gates.size(); i++) {
                circuit.gates.get(i).restart();
            }
        }

        void changeSource(Net source, char value) {
            put(source, value);
            spread();
        }

        /** All registers take before any of them changes, since one may take what another drives. */
        int takeAll() {
            for (int i = 0; i < circuit.sources.size(); i++) {
                Net source = circuit.sources.get(i);
                if (source.taken != null) {
                    source.next = source.taken.value == 'z' ? 'x' : source.taken.value;
                }
            }
            int changed = 0;
            for (int i = 0; i < circuit.sources.size(); i++) {
                Net source = circuit.sources.get(i);
                if (source.taken != null && put(source, source.next)) {
                    changed++;
                }
            }
            spread();
            return changed;
        }

        void goOn(int steps) {
            for (int step = 0; step < steps; step++) {
                time++;
                spread();
            }
        }

        int countToCome() {
            int count = 0;
            for (int i = 0; i < circuit.gates.size(); i++) {
                if (circuit.gates.get(i).isToCome) {
                    count++;
                }
            }
            return count;
        }

        private boolean put(Net net, char value) {
            if (net.value == value) {
                return false;
            }
            net.value = value;
            net.changeCount++;
            net.changedAt = time;
            net.isChanged = true;
            return true;
        }

        /** Follows the changes of now, round by round, until nothing more is to come in this step. */
        private void spread() {
            lookAtReaders();
            for (int round = 0; round < MOST_ROUNDS && isAnyDue(); round++) {
                letDueCome();
                lookAtReaders();
            }
        }

        private void lookAtReaders() {
            for (int i = 0; i < circuit.gates.size(); i++) {
                Gate gate = circuit.gates.get(i);
                if (gate.first.isChanged || gate.second.isChanged) {
                    gate.lookAt(time);
                }
            }
            for (int i = 0; i < circuit.nets.size(); i++) {
                circuit.nets.get(i).isChanged = false;
            }
        }

        private boolean isAnyDue() {
            for (int i = 0; i < circuit.gates.size(); i++) {
                if (circuit.gates.get(i).isDue(time)) {
                    return true;
                }
            }
            return false;
        }

        private void letDueCome() {
            for (int i = 0; i < circuit.gates.size(); i++) {
                Gate gate = circuit.gates.get(i);
                if (gate.isDue(time)) {
                    gate.come();
                }
            }
            for (int i = 0; i < circuit.nets.size(); i++) {
                Net net = circuit.nets.get(i);
                if (!net.isSource()) {
                    put(net, net.drivenValue());
                }
            }
        }
    }

    /** The rows that a circuit can be tried with, and those that are kept as tests. */
    private static final class Rows {
        private final Circuit circuit;
        private final int[] tests = new int[MOST_TESTS];
        int testCount;

        Rows(Circuit circuit) {
            this.circuit = circuit;
        }

        int rowCount() {
            return 1 << circuit.sources.size();
        }

        void keepTest(int row) {
            if (testCount < tests.length) {
                tests[testCount] = row;
                testCount++;
            }
        }

        int leastTellingApart(Net one, Net other) {
            for (int row = 0; row < rowCount(); row++) {
                tryRow(row, null, 'x');
                if (one.trial != other.trial) {
                    return row;
                }
            }
            return -1;
        }

        boolean areStandingsKept() {
            for (int row = 0; row < rowCount(); row++) {
                tryRow(row, null, 'x');
                for (int i = 0; i < circuit.nets.size(); i++) {
                    Net net = circuit.nets.get(i);
                    if (net.trial != net.standsFor.trial) {
                        return false;
                    }
                }
            }
            return true;
        }

        int leastShowing(Net stuck, char told) {
            for (int row = 0; row < rowCount(); row++) {
                if (isStuckShown(stuck, told, row)) {
                    return row;
                }
            }
            return -1;
        }

        boolean isShownBySomeTest(Net stuck, char told) {
            for (int i = 0; i < testCount && i < tests.length; i++) {
                if (isStuckShown(stuck, told, tests[i])) {
                    return true;
                }
            }
            return false;
        }

        boolean isStuckShown(Net stuck, char told, int row) {
            tryRow(row, null, 'x');
            if (stuck.trial == told) {
                return false;
            }
            for (int i = 0; i < circuit.nets.size(); i++) {
                Net net = circuit.nets.get(i);
                net.keptTrial = net.trial;
            }
            tryRow(row, stuck, told);
            return isDifferenceWatched();
        }

        private boolean isDifferenceWatched() {
            for (int i = 0; i < circuit.nets.size(); i++) {
                Net net = circuit.nets.get(i);
                boolean areKnown = isKnown(net.trial) && isKnown(net.keptTrial);
                if (net.isWatched() && areKnown && net.trial != net.keptTrial) {
                    return true;
                }
            }
            return false;
        }

        private void tryRow(int row, Net stuck, char told) {
            for (int i = 0; i < circuit.sources.size(); i++) {
                circuit.sources.get(i).trial = (row >> i & 1) == 1 ? '1' : '0';
            }
            circuit.settle(stuck, told);
        }
    }
}
