import java.util.NoSuchElementException;

/**
 * What the promises say one by one of what they throw. Each refused call is made on a bench of its own, which
 * then must answer all calls like its twin, on which it was not made; where several exceptions apply, the
 * bench is one on which the others that are documented later apply, too.
 */
final class Refusals {
    private static final Class<IllegalArgumentException> ARGUMENT = IllegalArgumentException.class;
    private static final Class<IndexOutOfBoundsException> INDEX = IndexOutOfBoundsException.class;
    private static final Class<UnsupportedOperationException> UNSUPPORTED = UnsupportedOperationException.class;
    private static final Class<IllegalStateException> STATE = IllegalStateException.class;
    private static final Class<NoSuchElementException> NONE = NoSuchElementException.class;
    private static final Class<ArithmeticException> ARITHMETIC = ArithmeticException.class;

    /** Wrong numbers of nets on a bench of 9 nets, and on any bench. */
    private static final int[] NO_NETS = {9, -1, 10, 39, 40, 41, 256, 65536, Integer.MAX_VALUE, Integer.MIN_VALUE};

    /** Each is out of the values also where its low bits alone would be one of them. */
    private static final char[] NO_VALUES = {'2', '/', 'X', 'Z', 'y', ' ', 0, 1, '0' + 256, '1' + 256, 'x' + 256, 0xffff};

    private final Document document;

    Refusals(Document document) {
        this.document = document;
    }

    void check() {
        document.quote(Document.TERMS, "A method that throws an exception changes nothing.");
        document.quote(Document.TERMS, "If several exceptions apply, the one that is documented first is thrown.");
        addInput();
        addGate();
        addBus();
        addOpen();
        addRegister();
        connect();
        mark();
        setInput();
        reset();
        pass();
        oneNetLooks();
        lastChange();
        slack();
        differs();
        shows();
        findTest();
        addTest();
        figures();
    }

    // Benches

    private interface Made {
        Deltacycle bench();
    }

    private interface Use {
        void on(Deltacycle x);
    }

    /** Nets 0 and 1 are inputs, 2 and 6 registers, 4 and 7 buses, 3, 5 and 8 gates; something has come and is to come. */
    private static Deltacycle used() {
        Deltacycle x = Benches.ofInputs(2);
        x.addRegister();
        x.addGate('&', 0, 1, 2);
        x.addBus();
        x.addGate('~', 4, 4, 0);
        x.addRegister();
        x.addBus();
        x.addGate('^', 5, 2, 9);
        x.addOpen(4, 3, 0, 1);
        x.addOpen(4, 2, 1, 3);
        x.connect(2, 8);
        x.mark(5, true);
        x.mark(0, true);
        x.addTest(3);
        x.addTest(12);
        x.pass(4);
        Benches.set(x, "11");
        x.pass(3);
        x.reset(6, '1');
        x.tick();
        x.setInput(1, '0');
        return x;
    }

    private static Deltacycle ofSources(int inputs, int registers) {
        Deltacycle x = Benches.ofInputs(inputs);
        for (int i = 0; i < registers; i++) {
            x.addRegister();
        }
        return x;
    }

    /** 40 nets, of which 0 is an input, 1 a register, 2 a bus and 3 a gate, with something to come. */
    private static Deltacycle full(int sources) {
        Deltacycle x = Benches.ofInputs(1);
        x.addRegister();
        x.addBus();
        x.addGate('~', 0, 0, 5);
        for (int i = 2; i < sources; i++) {
            x.addInput();
        }
        Benches.withBuses(x, Benches.MOST_NETS - 2 - sources);
        x.setInput(0, '1');
        return x;
    }

    /** Net 2 is a bus with four open gates, 3 reads it. */
    private static Deltacycle ofFullBus() {
        Deltacycle x = Benches.withBuses(Benches.ofInputs(2), 1);
        x.addGate('~', 2, 2, 3);
        for (int i = 0; i < 4; i++) {
            x.addOpen(2, i % 2, 1, i);
        }
        Benches.set(x, "11");
        return x;
    }

    private static Deltacycle ofFullTests() {
        Deltacycle x = Benches.ofInputs(2);
        x.mark(0, true);
        for (int i = 0; i < 8; i++) {
            x.addTest(i % 4);
        }
        return x;
    }

    private static Deltacycle late(int time) {
        Deltacycle x = Benches.ofInputs(1);
        x.addGate('=', 0, 0, 9);
        for (int at = 0; at < time; at += 100) {
            x.pass(Math.min(100, time - at));
        }
        x.setInput(0, '1');
        return x;
    }

    // What is refused

    private void says(int promise, Class<? extends RuntimeException> thrown, String when) {
        document.quote(promise, "Throws `" + thrown.getSimpleName() + "` " + when);
    }

    private static void refuses(Class<? extends RuntimeException> thrown, Made made, String call, Use use) {
        for (int part = 0; part < Told.PARTS; part++) {
            Deltacycle x = made.bench();
            Check.dueThrow(call, thrown, () -> use.on(x));
            Check.due("part " + part + " of all that is told after " + call, Told.by(x, part), Told.by(made.bench(), part));
        }
    }

    private void addInput() {
        says(2, UNSUPPORTED, "if there are 8 inputs and registers");
        for (int inputs : new int[] {0, 3, 8}) {
            refuses(UNSUPPORTED, () -> ofSources(inputs, 8 - inputs), "addInput() behind " + inputs, Deltacycle::addInput);
        }
        refuses(UNSUPPORTED, () -> full(8), "addInput() with 8 of 40 nets", Deltacycle::addInput);
        says(2, STATE, "if there are 40 nets");
        refuses(STATE, () -> full(7), "addInput() with 7 of 40 nets", Deltacycle::addInput);
    }

    private void addGate() {
        says(3, ARGUMENT, "if there is no such kind, or the delay is out of range");
        for (char kind : new char[] {'o', '>', '!', '-', '+', 'x', '0', 0, '~' + 256, '&' + 256, '|' + 256, '^' + 256,
            '=' + 256, '%', '\'', '{', '}', ']', '_', '<', 0xffff}) {
            refuses(ARGUMENT, Refusals::used, "addGate of kind " + (int) kind, x -> x.addGate(kind, 0, 1, 0));
        }
        for (int delay : new int[] {-1, 10, 256, Integer.MAX_VALUE, Integer.MIN_VALUE}) {
            for (char kind : Benches.KINDS.toCharArray()) {
                refuses(ARGUMENT, Refusals::used, kind + " with delay " + delay, x -> x.addGate(kind, 0, 1, delay));
            }
        }
        refuses(ARGUMENT, Refusals::used, "no such kind and net", x -> x.addGate('o', -1, 0, 0));
        refuses(ARGUMENT, Refusals::used, "no such delay and net", x -> x.addGate('&', 0, 9, 10));
        refuses(ARGUMENT, () -> full(8), "no such kind with 40 nets", x -> x.addGate('o', 0, 0, 0));
        refuses(ARGUMENT, () -> full(8), "no such delay with 40 nets", x -> x.addGate('=', 0, 0, -1));
        says(3, INDEX, "if there is no such net, for those that it reads");
        for (int net : NO_NETS) {
            for (char kind : Benches.KINDS.toCharArray()) {
                refuses(INDEX, Refusals::used, kind + " that reads " + net, x -> x.addGate(kind, net, 0, 0));
            }
            for (char kind : "&|^".toCharArray()) {
                refuses(INDEX, Refusals::used, kind + " that reads 0 and " + net, x -> x.addGate(kind, 0, net, 0));
            }
        }
        refuses(INDEX, Deltacycle::new, "a gate without nets", x -> x.addGate('~', 0, 0, 0));
        refuses(INDEX, () -> full(8), "no such first with 40 nets", x -> x.addGate('=', 40, 0, 0));
        refuses(INDEX, () -> full(8), "no such second with 40 nets", x -> x.addGate('^', 0, 40, 0));
        says(3, STATE, "if there are 40 nets");
        for (char kind : Benches.KINDS.toCharArray()) {
            refuses(STATE, () -> full(8), kind + " with 40 nets", x -> x.addGate(kind, 39, 0, 9));
        }
        refuses(STATE, () -> full(2), "'~' whatever the second is, with 40 nets", x -> x.addGate('~', 0, 40, 0));
    }

    private void addBus() {
        says(4, STATE, "if there are 40 nets");
        refuses(STATE, () -> full(2), "addBus() with 40 nets", Deltacycle::addBus);
        refuses(STATE, () -> Benches.withBuses(new Deltacycle(), 40), "addBus() with 40 buses", Deltacycle::addBus);
    }

    private void addOpen() {
        says(5, ARGUMENT, "if the delay is out of range");
        for (int delay : new int[] {-1, 10, 256, Integer.MAX_VALUE, Integer.MIN_VALUE}) {
            refuses(ARGUMENT, Refusals::used, "addOpen with delay " + delay, x -> x.addOpen(4, 0, 1, delay));
            refuses(ARGUMENT, Refusals::used, "no such nets, delay " + delay, x -> x.addOpen(-1, 9, 40, delay));
            refuses(ARGUMENT, Refusals::used, "no bus, delay " + delay, x -> x.addOpen(0, 0, 0, delay));
            refuses(ARGUMENT, Refusals::used, "a ring, delay " + delay, x -> x.addOpen(4, 5, 5, delay));
            refuses(ARGUMENT, Refusals::ofFullBus, "a full bus, delay " + delay, x -> x.addOpen(2, 0, 0, delay));
        }
        says(5, INDEX, "if there is no such net, for any, or the first one is no bus");
        for (int net : NO_NETS) {
            refuses(INDEX, Refusals::used, "addOpen for " + net, x -> x.addOpen(net, 0, 1, 0));
            refuses(INDEX, Refusals::used, "addOpen that reads " + net, x -> x.addOpen(4, net, 1, 0));
            refuses(INDEX, Refusals::used, "addOpen opened by " + net, x -> x.addOpen(4, 0, net, 0));
            refuses(INDEX, Refusals::used, "a ring that is opened by " + net, x -> x.addOpen(4, 5, net, 0));
            refuses(INDEX, Refusals::ofFullBus, "a full bus, opened by " + (net | 4), x -> x.addOpen(2, 2, net | 4, 0));
        }
        for (int net : new int[] {0, 1, 2, 3, 5, 6, 8}) {
            refuses(INDEX, Refusals::used, "addOpen for " + net + ", which is no bus", x -> x.addOpen(net, 0, 1, 0));
            refuses(INDEX, Refusals::used, "addOpen for " + net + " that reads it", x -> x.addOpen(net, net, net, 0));
        }
        rings();
        says(5, STATE, "if the bus has 4 open gates");
        refuses(STATE, Refusals::ofFullBus, "a fifth open gate", x -> x.addOpen(2, 0, 0, 0));
        refuses(STATE, Refusals::ofFullBus, "a fifth one, slow", x -> x.addOpen(2, 1, 0, 9));
    }

    private void rings() {
        says(5, UNSUPPORTED, "if there would be a ring");
        for (int net : new int[] {4, 5, 8}) {
            refuses(UNSUPPORTED, Refusals::used, "addOpen that reads " + net, x -> x.addOpen(4, net, 0, 0));
            refuses(UNSUPPORTED, Refusals::used, "addOpen opened by " + net, x -> x.addOpen(4, 0, net, 0));
            refuses(UNSUPPORTED, Refusals::used, "addOpen of " + net + " alone", x -> x.addOpen(4, net, net, 9));
        }
        refuses(UNSUPPORTED, Refusals::used, "a bus that nothing drives reads itself", x -> x.addOpen(7, 7, 0, 0));
        refuses(UNSUPPORTED, Refusals::used, "a bus that nothing drives opens itself", x -> x.addOpen(7, 0, 7, 0));
        refuses(UNSUPPORTED, Refusals::ofFullBus, "a ring at a full bus", x -> x.addOpen(2, 3, 0, 0));
        refuses(UNSUPPORTED, Refusals::ofFullBus, "a ring at a full bus by the opener", x -> x.addOpen(2, 0, 2, 0));
        refuses(UNSUPPORTED, () -> Benches.withBuses(new Deltacycle(), 1), "a ring of net 0", x -> x.addOpen(0, 0, 0, 0));
    }

    private void addRegister() {
        says(6, UNSUPPORTED, "if there are 8 inputs and registers");
        for (int inputs : new int[] {0, 3, 8}) {
            refuses(UNSUPPORTED, () -> ofSources(inputs, 8 - inputs), "addRegister() behind " + inputs,
                    Deltacycle::addRegister);
        }
        refuses(UNSUPPORTED, () -> full(8), "addRegister() with 8 of 40 nets", Deltacycle::addRegister);
        says(6, STATE, "if there are 40 nets");
        refuses(STATE, () -> full(7), "addRegister() with 7 of 40 nets", Deltacycle::addRegister);
    }

    private void connect() {
        says(7, INDEX, "if there is no such net, for either, or the first one is no register");
        for (int net : NO_NETS) {
            refuses(INDEX, Refusals::used, "connect(" + net + ", 0)", x -> x.connect(net, 0));
            refuses(INDEX, Refusals::used, "connect(2, " + net + ")", x -> x.connect(2, net));
            refuses(INDEX, Refusals::used, "connect(" + net + ", " + net + ")", x -> x.connect(net, net));
        }
        for (int net : new int[] {0, 1, 3, 4, 5, 7, 8}) {
            refuses(INDEX, Refusals::used, "connect(" + net + ", 2)", x -> x.connect(net, 2));
        }
    }

    private void mark() {
        says(8, INDEX, "if there is no such net");
        for (int net : NO_NETS) {
            refuses(INDEX, Refusals::used, "mark(" + net + ", true)", x -> x.mark(net, true));
            refuses(INDEX, Refusals::used, "mark(" + net + ", false)", x -> x.mark(net, false));
        }
    }

    private void setInput() {
        says(9, INDEX, "if there is no such net, or it is no input");
        for (int net : NO_NETS) {
            refuses(INDEX, Refusals::used, "setInput(" + net + ", '0')", x -> x.setInput(net, '0'));
            refuses(INDEX, Refusals::used, "setInput(" + net + ", '2')", x -> x.setInput(net, '2'));
        }
        for (int net = 2; net < 9; net++) {
            int one = net;
            refuses(INDEX, Refusals::used, "setInput(" + net + ", '1')", x -> x.setInput(one, '1'));
            refuses(INDEX, Refusals::used, "setInput(" + net + ", 'y')", x -> x.setInput(one, 'y'));
        }
        says(9, ARGUMENT, "if there is no such value");
        for (char value : NO_VALUES) {
            refuses(ARGUMENT, Refusals::used, "setInput(0, " + (int) value + ")", x -> x.setInput(0, value));
        }
    }

    private void reset() {
        says(11, INDEX, "if there is no such net, or it is no register");
        for (int net : NO_NETS) {
            refuses(INDEX, Refusals::used, "reset(" + net + ", '0')", x -> x.reset(net, '0'));
            refuses(INDEX, Refusals::used, "reset(" + net + ", 'x')", x -> x.reset(net, 'x'));
        }
        for (int net : new int[] {0, 1, 3, 4, 5, 7, 8}) {
            refuses(INDEX, Refusals::used, "reset(" + net + ", '1')", x -> x.reset(net, '1'));
            refuses(INDEX, Refusals::used, "reset(" + net + ", 'z')", x -> x.reset(net, 'z'));
        }
        says(11, ARGUMENT, "if it is no '0' or '1'");
        refusesValues("reset(2, ", (x, value) -> x.reset(2, value));
    }

    private interface UseOfValue {
        void on(Deltacycle x, char value);
    }

    private static void refusesValues(String call, UseOfValue use) {
        for (char value : (new String(NO_VALUES) + "xz").toCharArray()) {
            refuses(ARGUMENT, Refusals::used, call + (int) value + ")", x -> use.on(x, value));
        }
    }

    private void pass() {
        says(12, ARGUMENT, "if the number is out of range");
        for (int steps : new int[] {0, -1, 101, 102, 256, 9999, 10000, Integer.MAX_VALUE, Integer.MIN_VALUE}) {
            refuses(ARGUMENT, Refusals::used, "pass(" + steps + ")", x -> x.pass(steps));
            refuses(ARGUMENT, () -> late(9999), "pass(" + steps + ") at the last time", x -> x.pass(steps));
        }
        says(12, STATE, "if the time would be greater than 9999");
        refuses(STATE, () -> late(9999), "pass(1) at 9999", x -> x.pass(1));
        refuses(STATE, () -> late(9999), "pass(100) at 9999", x -> x.pass(100));
        refuses(STATE, () -> late(9998), "pass(2) at 9998", x -> x.pass(2));
        refuses(STATE, () -> late(9990), "pass(10) at 9990", x -> x.pass(10));
        refuses(STATE, () -> late(9900), "pass(100) at 9900", x -> x.pass(100));
        Check.due("pass(1) at 9998", late(9998).pass(1), 9999);
        Check.due("pass(9) at 9990", late(9990).pass(9), 9999);
        Check.due("pass(99) at 9900", late(9900).pass(99), 9999);
        Check.due("pass(100) at 9899", late(9899).pass(100), 9999);
    }

    private void oneNetLooks() {
        String when = "if there is no such net";
        for (int promise : new int[] {13, 14, 17, 18, 20}) {
            says(promise, INDEX, when);
        }
        for (int net : NO_NETS) {
            refuses(INDEX, Refusals::used, "value(" + net + ")", x -> x.value(net));
            refuses(INDEX, Refusals::used, "changes(" + net + ")", x -> x.changes(net));
            refuses(INDEX, Refusals::used, "settled(" + net + ")", x -> x.settled(net));
            refuses(INDEX, Refusals::used, "arrival(" + net + ")", x -> x.arrival(net));
            refuses(INDEX, Refusals::used, "stands(" + net + ")", x -> x.stands(net));
        }
        refuses(INDEX, () -> full(8), "value(40)", x -> x.value(40));
        refuses(INDEX, () -> full(8), "changes(40)", x -> x.changes(40));
        refuses(INDEX, () -> full(8), "settled(40)", x -> x.settled(40));
        refuses(INDEX, () -> full(8), "arrival(40)", x -> x.arrival(40));
        refuses(INDEX, () -> full(8), "stands(40)", x -> x.stands(40));
    }

    private void lastChange() {
        says(15, INDEX, "if there is no such net");
        for (int net : NO_NETS) {
            refuses(INDEX, Refusals::used, "lastChange(" + net + ")", x -> x.lastChange(net));
        }
        says(15, NONE, "if it has not changed");
        refuses(NONE, Refusals::used, "lastChange of a bus that nothing drives", x -> x.lastChange(7));
        refuses(NONE, () -> Benches.ofInputs(1), "lastChange of an input", x -> x.lastChange(0));
        refuses(NONE, () -> full(8), "lastChange of the last net", x -> x.lastChange(39));
        refuses(NONE, () -> full(8), "lastChange before it comes", x -> x.lastChange(3));
    }

    private void slack() {
        says(19, INDEX, "if there is no such net");
        for (int net : NO_NETS) {
            refuses(INDEX, Refusals::used, "slack(" + net + ", 1)", x -> x.slack(net, 1));
            refuses(INDEX, Refusals::used, "slack(" + net + ", 0)", x -> x.slack(net, 0));
        }
        says(19, ARGUMENT, "if the period is out of range");
        for (int period : new int[] {0, -1, 100, 101, 256, Integer.MAX_VALUE, Integer.MIN_VALUE}) {
            refuses(ARGUMENT, Refusals::used, "slack(8, " + period + ")", x -> x.slack(8, period));
        }
    }

    private void differs() {
        says(21, INDEX, "if there is no such net, for either");
        for (int net : NO_NETS) {
            refuses(INDEX, Refusals::used, "differs(" + net + ", 0)", x -> x.differs(net, 0));
            refuses(INDEX, Refusals::used, "differs(0, " + net + ")", x -> x.differs(0, net));
            refuses(INDEX, Refusals::used, "differs(" + net + ", " + net + ")", x -> x.differs(net, net));
        }
    }

    private void shows() {
        says(22, INDEX, "if there is no such net");
        for (int net : NO_NETS) {
            refuses(INDEX, Refusals::used, "shows(" + net + ", '0', 0)", x -> x.shows(net, '0', 0));
            refuses(INDEX, Refusals::used, "shows(" + net + ", 'x', -1)", x -> x.shows(net, 'x', -1));
        }
        says(22, ARGUMENT, "if it is no '0' or '1'");
        refusesValues("shows with row 0 and value (", (x, value) -> x.shows(0, value, 0));
        refusesValues("shows with row 16 and value (", (x, value) -> x.shows(0, value, 16));
        says(22, NONE, "if there is no such row");
        for (int row : new int[] {16, -1, 17, 255, 256, Integer.MAX_VALUE, Integer.MIN_VALUE}) {
            refuses(NONE, Refusals::used, "shows(0, '1', " + row + ")", x -> x.shows(0, '1', row));
        }
        refuses(NONE, () -> full(8), "shows with row 256", x -> x.shows(0, '1', 256));
        refuses(NONE, () -> Benches.withBuses(new Deltacycle(), 1), "shows with row 1 of one", x -> x.shows(0, '1', 1));
    }

    private void findTest() {
        says(23, INDEX, "if there is no such net");
        for (int net : NO_NETS) {
            refuses(INDEX, Refusals::used, "findTest(" + net + ", '0')", x -> x.findTest(net, '0'));
            refuses(INDEX, Refusals::used, "findTest(" + net + ", 'x')", x -> x.findTest(net, 'x'));
        }
        says(23, ARGUMENT, "if it is no '0' or '1'");
        refusesValues("findTest(0, ", (x, value) -> x.findTest(0, value));
        refusesValues("findTest where there is none, (", (x, value) -> x.findTest(6, value));
        says(23, NONE, "if there is none");
        refuses(NONE, Refusals::used, "findTest of what nothing sees", x -> x.findTest(6, '0'));
        refuses(NONE, Refusals::used, "findTest of a bus that nothing drives", x -> x.findTest(7, '1'));
        refuses(NONE, () -> Benches.ofInputs(8), "findTest with nothing marked", x -> x.findTest(0, '1'));
    }

    private void addTest() {
        says(24, NONE, "if there is no such row");
        for (int row : new int[] {16, -1, 17, 255, 256, Integer.MAX_VALUE, Integer.MIN_VALUE}) {
            refuses(NONE, Refusals::used, "addTest(" + row + ")", x -> x.addTest(row));
            refuses(NONE, Refusals::ofFullTests, "addTest(" + row + ") with 8 tests", x -> x.addTest(row));
        }
        refuses(NONE, () -> full(8), "addTest(256)", x -> x.addTest(256));
        refuses(NONE, Deltacycle::new, "addTest(1) without inputs", x -> x.addTest(1));
        says(24, STATE, "if there are 8 tests");
        for (int row = 0; row < 4; row++) {
            int one = row;
            refuses(STATE, Refusals::ofFullTests, "a ninth test of row " + row, x -> x.addTest(one));
        }
    }

    private void figures() {
        says(27, ARITHMETIC, "if there are no nets");
        refuses(ARITHMETIC, Deltacycle::new, "knownShare()", Deltacycle::knownShare);
        says(28, ARITHMETIC, "if there are no nets");
        refuses(ARITHMETIC, Deltacycle::new, "meanArrival()", Deltacycle::meanArrival);
    }
}
