import java.util.ArrayList;
import java.util.Arrays;
import java.util.HashMap;
import java.util.LinkedHashMap;
import java.util.List;
import java.util.Map;
import java.util.NoSuchElementException;
import java.util.TreeSet;

/**
 * The document once more, written by its words and without regard for speed, so that Deltacycle can be
 * compared with it: all that hangs together is found by recursion, and what is to come is a map.
 */
final class Model {
    private static final class Part {
        char kind;
        int[] reads;
        int output;
        int delay;
        char last;
    }

    private static final class Coming {
        final char value;
        final int time;

        Coming(char value, int time) {
            this.value = value;
            this.time = time;
        }
    }

    /** 'i', 'r', 'b' or 'g' for each net. */
    private final StringBuilder kinds = new StringBuilder();
    private final List<Part> parts = new ArrayList<>();
    private final Map<Integer, Integer> taken = new HashMap<>();
    private final TreeSet<Integer> marked = new TreeSet<>();
    private final List<Integer> tests = new ArrayList<>();

    private char[] now = new char[0];
    private int[] changes = new int[0];
    private int[] last = new int[0];
    private int time;
    private final Map<Part, Coming> toCome = new LinkedHashMap<>();

    private int nets() {
        return kinds.length();
    }

    private boolean isNet(int net) {
        return net >= 0 && net < nets();
    }

    private boolean isOf(int net, char kind) {
        return isNet(net) && kinds.charAt(net) == kind;
    }

    private boolean isSource(int net) {
        return isOf(net, 'i') || isOf(net, 'r');
    }

    private List<Integer> sources() {
        List<Integer> found = new ArrayList<>();
        for (int net = 0; net < nets(); net++) {
            if (isSource(net)) {
                found.add(net);
            }
        }
        return found;
    }

    private List<Part> driversOf(int net) {
        List<Part> found = new ArrayList<>();
        for (Part part : parts) {
            if (part.output == net) {
                found.add(part);
            }
        }
        return found;
    }

    private List<Part> readersOf(int net) {
        List<Part> found = new ArrayList<>();
        for (Part part : parts) {
            if (Arrays.stream(part.reads).anyMatch(read -> read == net)) {
                found.add(part);
            }
        }
        return found;
    }

    // Values

    private static char gives(Part part, char[] values) {
        String read = "";
        for (int net : part.reads) {
            read += values[net] == 'z' ? 'x' : values[net];
        }
        switch (part.kind) {
            case '&':
                return read.contains("0") ? '0' : read.equals("11") ? '1' : 'x';
            case '|':
                return read.contains("1") ? '1' : read.equals("00") ? '0' : 'x';
            case '^':
                return read.contains("x") ? 'x' : read.equals("01") || read.equals("10") ? '1' : '0';
            case '~':
                return read.equals("x") ? 'x' : read.equals("1") ? '0' : '1';
            case '=':
                return read.charAt(0);
            default:
                return read.charAt(1) == '1' ? read.charAt(0) : read.charAt(1) == '0' ? 'z' : 'x';
        }
    }

    private static char busOf(List<Character> given) {
        TreeSet<Character> told = new TreeSet<>(given);
        told.remove('z');
        return told.isEmpty() ? 'z' : told.size() == 1 ? told.first() : 'x';
    }

    /** The settled values by those of the sources; the net that is stuck, or -1, has what is told. */
    private char[] settle(char[] ofSources, int stuck, char told) {
        char[] values = new char[nets()];
        for (int net = 0; net < nets(); net++) {
            settleNet(net, values, ofSources, stuck, told);
        }
        return values;
    }

    private void settleNet(int net, char[] values, char[] ofSources, int stuck, char told) {
        if (values[net] != 0) {
            return;
        }
        if (net == stuck) {
            values[net] = told;
        } else if (isSource(net)) {
            values[net] = ofSources[net];
        } else {
            List<Character> given = new ArrayList<>();
            for (Part part : driversOf(net)) {
                for (int read : part.reads) {
                    settleNet(read, values, ofSources, stuck, told);
                }
                given.add(gives(part, values));
            }
            values[net] = isOf(net, 'b') ? busOf(given) : given.get(0);
        }
    }

    private char[] settleRow(int row, int stuck, char told) {
        char[] ofSources = new char[nets()];
        int bit = 1;
        for (int source : sources()) {
            ofSources[source] = (row & bit) != 0 ? '1' : '0';
            bit *= 2;
        }
        return settle(ofSources, stuck, told);
    }

    private int rows() {
        return (int) Math.round(Math.pow(2, sources().size()));
    }

    // Building

    private void built() {
        toCome.clear();
        time = 0;
        char[] unknown = new char[nets()];
        Arrays.fill(unknown, 'x');
        now = settle(unknown, -1, 'x');
        changes = new int[nets()];
        last = new int[nets()];
        for (Part part : parts) {
            part.last = gives(part, now);
        }
    }

    private int makeNet(char kind) {
        kinds.append(kind);
        return nets() - 1;
    }

    private void makePart(char kind, int output, int delay, int... reads) {
        Part part = new Part();
        part.kind = kind;
        part.reads = reads;
        part.output = output;
        part.delay = delay;
        parts.add(part);
    }

    private int addSource(char kind) {
        if (sources().size() == 8) {
            throw new UnsupportedOperationException();
        }
        if (nets() == 40) {
            throw new IllegalStateException();
        }
        int net = makeNet(kind);
        built();
        return net;
    }

    int addInput() {
        return addSource('i');
    }

    int addRegister() {
        return addSource('r');
    }

    int addGate(char kind, int first, int second, int delay) {
        if ("~=&|^".indexOf(kind) < 0 || delay < 0 || delay > 9) {
            throw new IllegalArgumentException();
        }
        boolean readsOne = kind == '~' || kind == '=';
        if (!isNet(first) || !readsOne && !isNet(second)) {
            throw new IndexOutOfBoundsException();
        }
        if (nets() == 40) {
            throw new IllegalStateException();
        }
        int net = makeNet('g');
        if (readsOne) {
            makePart(kind, net, delay, first);
        } else {
            makePart(kind, net, delay, first, second);
        }
        built();
        return net;
    }

    int addBus() {
        if (nets() == 40) {
            throw new IllegalStateException();
        }
        int net = makeNet('b');
        built();
        return net;
    }

    private boolean hangsOn(int net, int other) {
        if (net == other) {
            return true;
        }
        for (Part part : driversOf(net)) {
            for (int read : part.reads) {
                if (hangsOn(read, other)) {
                    return true;
                }
            }
        }
        return false;
    }

    int addOpen(int bus, int first, int opener, int delay) {
        if (delay < 0 || delay > 9) {
            throw new IllegalArgumentException();
        }
        if (!isOf(bus, 'b') || !isNet(first) || !isNet(opener)) {
            throw new IndexOutOfBoundsException();
        }
        if (hangsOn(first, bus) || hangsOn(opener, bus)) {
            throw new UnsupportedOperationException();
        }
        if (driversOf(bus).size() == 4) {
            throw new IllegalStateException();
        }
        makePart('o', bus, delay, first, opener);
        built();
        return driversOf(bus).size();
    }

    int connect(int register, int net) {
        if (!isOf(register, 'r') || !isNet(net)) {
            throw new IndexOutOfBoundsException();
        }
        Integer before = taken.put(register, net);
        built();
        return before == null ? -1 : before;
    }

    boolean mark(int net, boolean isMarked) {
        requireNet(net);
        return isMarked ? !marked.add(net) : marked.remove(net);
    }

    private void requireNet(int net) {
        if (!isNet(net)) {
            throw new IndexOutOfBoundsException();
        }
    }

    // Time

    /** A change of nets, and all that comes of it in this step; answers how many differed. */
    private int change(Map<Integer, Character> changed) {
        TreeSet<Integer> differing = new TreeSet<>();
        for (Map.Entry<Integer, Character> one : changed.entrySet()) {
            int net = one.getKey();
            if (now[net] != one.getValue()) {
                now[net] = one.getValue();
                changes[net]++;
                last[net] = time;
                differing.add(net);
            }
        }
        for (Part part : parts) {
            if (Arrays.stream(part.reads).anyMatch(differing::contains)) {
                lookAt(part);
            }
        }
        letCome();
        return differing.size();
    }

    private void lookAt(Part part) {
        char given = gives(part, now);
        Coming coming = toCome.get(part);
        if (coming == null) {
            if (given != part.last) {
                toCome.put(part, new Coming(given, time + part.delay));
            }
        } else if (given == coming.value) {
            return;
        } else if (given == part.last) {
            toCome.remove(part);
        } else {
            toCome.put(part, new Coming(given, time + part.delay));
        }
    }

    private void letCome() {
        Map<Integer, Character> changed = new HashMap<>();
        List<Part> came = new ArrayList<>();
        for (Map.Entry<Part, Coming> one : toCome.entrySet()) {
            if (one.getValue().time == time) {
                one.getKey().last = one.getValue().value;
                came.add(one.getKey());
            }
        }
        if (came.isEmpty()) {
            return;
        }
        for (Part part : came) {
            toCome.remove(part);
            List<Character> given = new ArrayList<>();
            for (Part driver : driversOf(part.output)) {
                given.add(driver.last);
            }
            changed.put(part.output, isOf(part.output, 'b') ? busOf(given) : given.get(0));
        }
        change(changed);
    }

    char setInput(int input, char value) {
        if (!isOf(input, 'i')) {
            throw new IndexOutOfBoundsException();
        }
        if ("01xz".indexOf(value) < 0) {
            throw new IllegalArgumentException();
        }
        char before = now[input];
        change(Map.of(input, value));
        return before;
    }

    int tick() {
        Map<Integer, Character> changed = new HashMap<>();
        for (Map.Entry<Integer, Integer> one : taken.entrySet()) {
            char value = now[one.getValue()];
            changed.put(one.getKey(), value == 'z' ? 'x' : value);
        }
        return change(changed);
    }

    char reset(int register, char value) {
        if (!isOf(register, 'r')) {
            throw new IndexOutOfBoundsException();
        }
        requireKnown(value);
        char before = now[register];
        change(Map.of(register, value));
        return before;
    }

    private static void requireKnown(char value) {
        if (!isKnown(value)) {
            throw new IllegalArgumentException();
        }
    }

    private static boolean isKnown(char value) {
        return "01".indexOf(value) >= 0;
    }

    int pass(int steps) {
        if (steps < 1 || steps > 100) {
            throw new IllegalArgumentException();
        }
        if (time + steps > 9999) {
            throw new IllegalStateException();
        }
        int until = time + steps;
        while (time < until) {
            time++;
            letCome();
        }
        return time;
    }

    char value(int net) {
        requireNet(net);
        return now[net];
    }

    int changes(int net) {
        requireNet(net);
        return changes[net];
    }

    int lastChange(int net) {
        requireNet(net);
        if (changes[net] == 0) {
            throw new NoSuchElementException();
        }
        return last[net];
    }

    int pending() {
        return toCome.size();
    }

    char settled(int net) {
        requireNet(net);
        return settle(now, -1, 'x')[net];
    }

    // Delays and standing

    int arrival(int net) {
        requireNet(net);
        return before(net, new HashMap<>());
    }

    private int before(int net, Map<Integer, Integer> known) {
        if (!known.containsKey(net)) {
            int most = 0;
            for (Part part : driversOf(net)) {
                for (int read : part.reads) {
                    most = Math.max(most, before(read, known) + part.delay);
                }
            }
            known.put(net, most);
        }
        return known.get(net);
    }

    private int behind(int net, Map<Integer, Integer> known) {
        if (!known.containsKey(net)) {
            int most = 0;
            for (Part part : readersOf(net)) {
                most = Math.max(most, part.delay + behind(part.output, known));
            }
            known.put(net, most);
        }
        return known.get(net);
    }

    int slack(int net, int period) {
        requireNet(net);
        if (period < 1 || period > 99) {
            throw new IllegalArgumentException();
        }
        return period - before(net, new HashMap<>()) - behind(net, new HashMap<>());
    }

    int stands(int net) {
        requireNet(net);
        return standing(net, new HashMap<>());
    }

    private int standing(int net, Map<Integer, Integer> known) {
        if (!isOf(net, 'g')) {
            return net;
        }
        if (!known.containsKey(net)) {
            int simple = simpleStanding(driversOf(net).get(0), known);
            known.put(net, simple < 0 || isOf(simple, 'b') ? lowestAlike(net, known) : simple);
        }
        return known.get(net);
    }

    private int simpleStanding(Part gate, Map<Integer, Integer> known) {
        int one = standing(gate.reads[0], known);
        switch (gate.kind) {
            case '=':
                return one;
            case '~':
                Part other = isOf(one, 'g') ? driversOf(one).get(0) : null;
                return other != null && other.kind == '~' ? standing(other.reads[0], known) : -1;
            case '^':
                return -1;
            default:
                return one == standing(gate.reads[1], known) ? one : -1;
        }
    }

    private int lowestAlike(int net, Map<Integer, Integer> known) {
        for (int lower = 0; lower < net; lower++) {
            if (isOf(lower, 'g') && sortOf(lower, known).equals(sortOf(net, known))) {
                return lower;
            }
        }
        return net;
    }

    private String sortOf(int net, Map<Integer, Integer> known) {
        Part gate = driversOf(net).get(0);
        int[] read = new int[gate.reads.length];
        for (int i = 0; i < read.length; i++) {
            read[i] = standing(gate.reads[i], known);
        }
        Arrays.sort(read);
        return gate.kind + Arrays.toString(read);
    }

    int differs(int first, int second) {
        requireNet(first);
        requireNet(second);
        for (int row = 0; row < rows(); row++) {
            char[] values = settleRow(row, -1, 'x');
            if (values[first] != values[second]) {
                return row;
            }
        }
        return -1;
    }

    // Tests

    private boolean isShown(int net, char value, int row) {
        char[] without = settleRow(row, -1, 'x');
        char[] with = settleRow(row, net, value);
        for (int seen = 0; seen < nets(); seen++) {
            boolean isWatched = marked.contains(seen) || taken.containsValue(seen);
            if (isWatched && isKnown(with[seen]) && isKnown(without[seen]) && with[seen] != without[seen]) {
                return true;
            }
        }
        return false;
    }

    boolean shows(int net, char value, int row) {
        requireNet(net);
        requireKnown(value);
        requireRow(row);
        return isShown(net, value, row);
    }

    private void requireRow(int row) {
        if (row < 0 || row >= rows()) {
            throw new NoSuchElementException();
        }
    }

    int findTest(int net, char value) {
        requireNet(net);
        requireKnown(value);
        for (int row = 0; row < rows(); row++) {
            if (isShown(net, value, row)) {
                return row;
            }
        }
        throw new NoSuchElementException();
    }

    int addTest(int row) {
        requireRow(row);
        if (tests.size() == 8) {
            throw new IllegalStateException();
        }
        tests.add(row);
        return tests.size();
    }

    int shown() {
        TreeSet<String> shown = new TreeSet<>();
        for (int row : tests) {
            for (int net = 0; net < nets(); net++) {
                for (char value = '0'; value <= '1'; value++) {
                    if (isShown(net, value, row)) {
                        shown.add(net + " at " + value);
                    }
                }
            }
        }
        return shown.size();
    }

    // Figures

    long activity() {
        long sum = 0;
        for (int net = 0; net < nets(); net++) {
            sum += (long) changes[net] * (1 + readersOf(net).size());
        }
        return sum;
    }

    float knownShare() {
        requireSomeNet();
        float known = 0;
        for (char value : now) {
            known += isKnown(value) ? 1 : 0;
        }
        return known / nets();
    }

    double meanArrival() {
        requireSomeNet();
        double sum = 0;
        for (int net = 0; net < nets(); net++) {
            sum += arrival(net);
        }
        return sum / nets();
    }

    private void requireSomeNet() {
        if (nets() == 0) {
            throw new ArithmeticException();
        }
    }

    boolean isSound() {
        if (toCome.isEmpty() && !Arrays.equals(now, settle(now, -1, 'x'))) {
            return false;
        }
        for (int row = 0; row < rows(); row++) {
            char[] values = settleRow(row, -1, 'x');
            for (int net = 0; net < nets(); net++) {
                if (values[net] != values[stands(net)]) {
                    return false;
                }
            }
        }
        return true;
    }
}
