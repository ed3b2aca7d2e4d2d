import java.util.NoSuchElementException;

/** The sentences of "Terms" one by one, each with what it says at its edges. */
final class TermSentences {
    private static final Class<IndexOutOfBoundsException> INDEX = IndexOutOfBoundsException.class;
    private static final Class<UnsupportedOperationException> UNSUPPORTED = UnsupportedOperationException.class;
    private static final Class<IllegalStateException> STATE = IllegalStateException.class;

    private final Document document;

    TermSentences(Document document) {
        this.document = document;
    }

    void check() {
        fourValues();
        undrivenReadsUnknown();
        mostNets();
        kindsOfNets();
        mostSources();
        delays();
        kindsOfGates();
        openGates();
        buses();
        takenNets();
        rings();
        building();
        lookedAt();
        comesLater();
        comesInstead();
        comesTogether();
        comesFirst();
        settingInputs();
        ticks();
        resets();
        settled();
        arrivals();
        slacks();
        standings();
        standingsForBuses();
        rows();
        stuck();
        showing();
        tests();
        clarifications();
    }

    private void says(String sentence) {
        document.quote(Document.TERMS, sentence);
    }

    // Values

    private void fourValues() {
        says("A net has one of four values, told as '0', '1', 'x' unknown, or 'z' not driven.");
        Deltacycle x = Benches.ofInputs(1);
        x.addBus();
        for (char value : Benches.VALUES.toCharArray()) {
            x.setInput(0, value);
            Check.due("value of an input set to " + value, x.value(0), value);
            Check.due("settled value of an input set to " + value, x.settled(0), value);
        }
        Check.due("a bus that nothing drives", x.value(1), 'z');
    }

    private void undrivenReadsUnknown() {
        says("What reads 'z' reads 'x'.");
        for (char kind : Benches.KINDS.toCharArray()) {
            for (char other : Benches.VALUES.toCharArray()) {
                Deltacycle x = Benches.ofInputs(2);
                x.addGate(kind, 0, 1, 0);
                x.addGate(kind, 1, 0, 0);
                Benches.set(x, "x" + other);
                String ofUnknown = "" + x.value(2) + x.value(3);
                Benches.set(x, "z" + other);
                Check.due(kind + " of 'z' and " + other, "" + x.value(2) + x.value(3), ofUnknown);
                Check.due(kind + " never gives 'z'", ofUnknown.indexOf('z'), -1);
            }
        }
    }

    // Nets

    private void mostNets() {
        says("At most 40 nets are numbered from 0.");
        for (int last = 0; last < 4; last++) {
            Deltacycle x = Benches.ofInputs(1);
            x.addRegister();
            Benches.withBuses(x, 37);
            Check.due("the 40th net of kind " + last, makeNet(x, last), 39);
            Check.due("its value", x.value(39), last == 2 ? 'z' : 'x');
            for (int kind = 0; kind < 4; kind++) {
                int more = kind;
                Check.dueThrow("a 41st net of kind " + kind, STATE, () -> makeNet(x, more));
            }
            Check.dueThrow("there is no net 40", INDEX, () -> x.value(40));
            Check.due("an open gate is no net", x.addOpen(2, 0, 1, 0), 1);
        }
        Check.dueThrow("no net 0 at first", INDEX, () -> new Deltacycle().value(0));
    }

    private static int makeNet(Deltacycle x, int kind) {
        switch (kind) {
            case 0:
                return x.addInput();
            case 1:
                return x.addRegister();
            case 2:
                return x.addBus();
            default:
                return x.addGate('&', 0, 1, 0);
        }
    }

    private void kindsOfNets() {
        says("A net is an input; the output of a gate; a bus, which is driven by open gates; or the output of a register.");
        Deltacycle x = Benches.ofInputs(1);
        x.addGate('=', 0, 0, 0);
        x.addBus();
        x.addRegister();
        Check.due("an input is set", x.setInput(0, '1'), 'x');
        Check.due("a register is reset", x.reset(3, '1'), 'x');
        for (int net = 0; net < 4; net++) {
            int one = net;
            if (net != 0) {
                Check.dueThrow(net + " is no input", INDEX, () -> x.setInput(one, '0'));
            }
            if (net != 2) {
                Check.dueThrow(net + " is no bus", INDEX, () -> x.addOpen(one, 0, 0, 0));
            }
            if (net != 3) {
                Check.dueThrow(net + " is no register", INDEX, () -> x.reset(one, '0'));
                Check.dueThrow(net + " is no register", INDEX, () -> x.connect(one, 0));
            }
        }
        Check.due("the register", x.connect(3, 0), -1);
        Check.due("the bus", x.addOpen(2, 0, 0, 0), 1);
    }

    private void mostSources() {
        says("There are at most 8 inputs and registers together.");
        for (int inputs = 0; inputs <= Benches.MOST_SOURCES; inputs++) {
            Deltacycle x = Benches.ofInputs(inputs);
            for (int net = inputs; net < Benches.MOST_SOURCES; net++) {
                Check.due("register " + net, x.addRegister(), net);
            }
            Check.dueThrow("an input more behind " + inputs, UNSUPPORTED, x::addInput);
            Check.dueThrow("a register more behind " + inputs, UNSUPPORTED, x::addRegister);
            Check.due("a bus is neither", x.addBus(), 8);
            Check.due("a gate is neither", x.addGate('~', 8, 8, 0), 9);
        }
    }

    private void delays() {
        says("A gate reads one or two nets, and has a delay from 0 to 9: '~' not, '=' the same, '&' and, '|' or,"
                + " '^' exclusive or.");
        for (char kind : Benches.KINDS.toCharArray()) {
            for (int delay = 0; delay <= 9; delay++) {
                Deltacycle x = Benches.ofInputs(2);
                Check.due("a gate with delay " + delay, x.addGate(kind, 0, 1, delay), 2);
                Benches.set(x, "00");
                for (int time = 0; time < delay; time++) {
                    Check.due(kind + " too early at " + time + " of " + delay, x.value(2), 'x');
                    x.pass(1);
                }
                Check.due(kind + " after " + delay, x.value(2), kind == '~' ? '1' : '0');
                Check.due(kind + " changed at " + delay, x.lastChange(2), delay);
            }
            refusesDelay(kind, -1);
            refusesDelay(kind, 10);
        }
    }

    private static void refusesDelay(char kind, int delay) {
        Deltacycle x = Benches.ofInputs(1);
        Check.dueThrow(kind + " with delay " + delay, IllegalArgumentException.class, () -> x.addGate(kind, 0, 0, delay));
    }

    private void kindsOfGates() {
        says("'&' gives '0' if one that it reads is '0', whatever the other one is, '1' if both are '1', and 'x' otherwise;"
                + " '|' likewise with '0' and '1' changed; '~', '=' and '^' give 'x' if one that they read is 'x'.");
        String[] given = {"10xx", "01xx", "0000" + "01xx" + "0xxx" + "0xxx", "01xx" + "1111" + "x1xx" + "x1xx",
            "01xx" + "10xx" + "xxxx" + "xxxx"};
        for (int kind = 0; kind < given.length; kind++) {
            boolean readsOne = given[kind].length() == 4;
            for (int i = 0; i < 16; i++) {
                String read = "" + Benches.VALUES.charAt(i / 4) + Benches.VALUES.charAt(i % 4);
                Deltacycle x = Benches.ofInputs(2);
                x.addGate(Benches.KINDS.charAt(kind), 0, 1, 0);
                Benches.set(x, read);
                char due = given[kind].charAt(readsOne ? i / 4 : i);
                Check.due(Benches.KINDS.charAt(kind) + " of " + read, x.value(2), due);
                Check.due(Benches.KINDS.charAt(kind) + " of " + read + " settled", x.settled(2), due);
            }
        }
        Deltacycle x = Benches.ofInputs(1);
        x.addGate('^', 0, 0, 0);
        Check.due("'^' of one net that is 'x'", x.value(1), 'x');
        x.setInput(0, '1');
        Check.due("'^' of one net that is '1'", x.value(1), '0');
    }

    private void openGates() {
        says("An open gate reads a net and one that opens it: it gives what it reads if that one is '1',"
                + " 'z' if it is '0', and 'x' otherwise.");
        String given = "z0xx" + "z1xx" + "zxxx" + "zxxx";
        for (int i = 0; i < 16; i++) {
            String read = "" + Benches.VALUES.charAt(i / 4) + Benches.VALUES.charAt(i % 4);
            Deltacycle x = Benches.withBuses(Benches.ofInputs(2), 1);
            x.addOpen(2, 0, 1, 0);
            Benches.set(x, read);
            Check.due("open gate that reads and is opened by " + read, x.value(2), given.charAt(i));
            Check.due("it settles with " + read, x.settled(2), given.charAt(i));
        }
        Deltacycle x = Benches.withBuses(Benches.ofInputs(1), 1);
        x.addOpen(1, 0, 0, 0);
        Benches.set(x, "1");
        Check.due("opened by what it reads", x.value(1), '1');
        Benches.set(x, "0");
        Check.due("closed by what it reads", x.value(1), 'z');
    }

    /** Inputs 0 to 3 are read and 4 to 7 open; what the bus is due to have is told by counting. */
    private void buses() {
        says("A bus has 'z' if all its open gates give 'z'; otherwise the value that all those give that do not give 'z',"
                + " if they give the same; otherwise 'x'.");
        for (int first = 0; first < 16; first++) {
            Deltacycle x = Benches.withBuses(Benches.ofInputs(8), 1);
            Check.due("a bus without open gates", x.value(8), 'z');
            for (int i = 0; i < 4; i++) {
                x.addOpen(8, i, 4 + i, 0);
            }
            for (int second = 0; second < 16; second++) {
                String given = "" + Benches.VALUES.charAt(first / 4) + Benches.VALUES.charAt(first % 4)
                        + Benches.VALUES.charAt(second / 4) + Benches.VALUES.charAt(second % 4);
                letGive(x, given);
                Check.due("bus whose open gates give " + given, x.value(8), joined(given));
                Check.due("it settles with " + given, x.settled(8), joined(given));
            }
        }
        busAsNetZero();
    }

    private static void busAsNetZero() {
        Deltacycle x = new Deltacycle();
        x.addBus();
        x.addInput();
        x.addInput();
        x.addGate('~', 0, 0, 0);
        Check.due("net 0 is driven", x.addOpen(0, 1, 2, 3), 1);
        Check.dueThrow("a ring from net 0 on", UNSUPPORTED, () -> x.addOpen(0, 3, 1, 0));
        Check.due("net 0 arrives", x.arrival(0), 3);
        Check.due("all arrive", x.meanArrival(), 6.0 / 4.0);
        Check.due("net 0 has slack", x.slack(0, 3), 0);
        x.setInput(1, '1');
        x.setInput(2, '1');
        Check.due("net 0 settles", x.settled(0), '1');
        x.pass(3);
        Check.due("net 0 has its value", x.value(0), '1');
        Check.due("net 0 changed", x.lastChange(0), 3);
        Check.due("what reads it", x.value(3), '0');
        Check.due("all are known", x.knownShare(), 1f);
        Check.due("net 0 has no bit", x.differs(1, 2), 1);
    }

    private static void letGive(Deltacycle x, String given) {
        for (int i = 0; i < given.length(); i++) {
            x.setInput(i, given.charAt(i));
            x.setInput(4 + i, given.charAt(i) == 'z' ? '0' : '1');
        }
    }

    private static char joined(String given) {
        String driven = given.replace("z", "");
        if (driven.isEmpty()) {
            return 'z';
        }
        boolean areAlike = driven.replace(driven.substring(0, 1), "").isEmpty();
        return areAlike ? driven.charAt(0) : 'x';
    }

    private void takenNets() {
        says("A register can have a net that it takes.");
        Deltacycle x = Benches.withBuses(Benches.ofInputs(1), 1);
        x.addRegister();
        x.addRegister();
        x.reset(2, '1');
        Check.due("none yet: nothing changes", x.tick(), 0);
        Check.due("none yet: the value stays", x.value(2), '1');
        x.addGate('~', 2, 2, 0);
        int[] taken = {0, 1, 2, 3, 4};
        int before = -1;
        for (int net : taken) {
            Check.due("net " + net + " is taken", x.connect(2, net), before);
            before = net;
        }
        Check.due("the other one takes none still", x.connect(3, 2), -1);
        x.reset(2, '0');
        Check.due("both take", x.tick(), 2);
        Check.due("from its own '~'", x.value(2), '1');
        Check.due("from the other one", x.value(3), '0');
    }

    private void rings() {
        says("Nets do not hang together in a ring by gates and open gates, registers aside.");
        Deltacycle x = Benches.withBuses(Benches.ofInputs(1), 1);
        x.addRegister();
        Check.dueThrow("a ring of one", UNSUPPORTED, () -> x.addOpen(1, 1, 0, 0));
        Check.dueThrow("a ring of one by the opener", UNSUPPORTED, () -> x.addOpen(1, 0, 1, 0));
        for (int net = 3; net < Benches.MOST_NETS; net++) {
            x.addGate('&', 0, net == 3 ? 1 : net - 1, 0);
        }
        Check.dueThrow("a ring of all nets", UNSUPPORTED, () -> x.addOpen(1, 39, 0, 0));
        Check.dueThrow("a ring of all nets by the opener", UNSUPPORTED, () -> x.addOpen(1, 0, 39, 0));
        Check.dueThrow("a ring of two", UNSUPPORTED, () -> x.addOpen(1, 3, 0, 0));
        x.connect(2, 39);
        Check.due("a register parts the ring", x.addOpen(1, 2, 0, 0), 1);
        Check.due("it takes itself", x.connect(2, 2), 39);
        ringsOfBuses();
    }

    private void ringsOfBuses() {
        Deltacycle x = Benches.withBuses(Benches.ofInputs(1), 39);
        for (int bus = 1; bus < 39; bus++) {
            Check.due("a bus reads the next one", x.addOpen(bus, bus + 1, 0, 0), 1);
        }
        Check.dueThrow("the last one reads the first", UNSUPPORTED, () -> x.addOpen(39, 1, 0, 0));
        Check.dueThrow("the last one is opened by the first", UNSUPPORTED, () -> x.addOpen(39, 0, 1, 0));
        Check.dueThrow("one in the middle", UNSUPPORTED, () -> x.addOpen(20, 0, 19, 0));
        Check.due("two ways to one net are no ring", x.addOpen(1, 39, 2, 0), 2);
        Check.due("the last one reads the input", x.addOpen(39, 0, 0, 9), 1);
        Check.due("it arrives at the first one", x.arrival(1), 9);
        x.setInput(0, '1');
        x.pass(8);
        Check.due("not yet", x.value(1), 'x');
        x.pass(1);
        Check.due("through all buses in one step", x.value(1), '1');
    }

    // Building

    private void building() {
        says("A call that makes a net or an open gate, or connects a register, ends all that is to come, makes the time 0,"
                + " and all inputs and registers 'x'; all others have at once what comes of these, and no net has changed.");
        for (int way = 0; way < 7; way++) {
            Deltacycle x = usedBench();
            build(x, way);
            String call = "after building " + way + ": ";
            Check.due(call + "nothing is to come", x.pending(), 0);
            for (int net = 0; net < 6; net++) {
                int one = net;
                Check.due(call + "value of " + net, x.value(net), net == 3 && way != 4 ? 'z' : 'x');
                Check.due(call + "changes of " + net, x.changes(net), 0);
                Check.dueThrow(call + "change of " + net, NoSuchElementException.class, () -> x.lastChange(one));
            }
            Check.due(call + "activity", x.activity(), 0L);
            Check.due(call + "the time", x.pass(9), 9);
            Check.due(call + "nothing came", x.value(2), 'x');
            x.setInput(0, '0');
            Check.due(call + "a change counts from 0 on", x.lastChange(0), 9);
            givesAnew(way);
        }
    }

    /** What was given before building is not what was given last: the same values come once more. */
    private static void givesAnew(int way) {
        Deltacycle x = usedBench();
        x.addOpen(3, 1, 0, 0);
        for (int round = 0; round < 2; round++) {
            x.setInput(0, '1');
            x.reset(1, '0');
            Check.due("round " + round + ": the slow gate has something to come", x.pending(), 1);
            Check.due("round " + round + ": the bus", x.value(3), '0');
            Check.due("round " + round + ": the quick gates", "" + x.value(4) + x.value(5), "11");
            Check.due("round " + round + ": they changed once", x.changes(3) + x.changes(4) + x.changes(5), 3);
            x.pass(5);
            Check.due("round " + round + ": the slow gate", x.value(2), '0');
            build(x, way);
        }
    }

    /** An input, a register that takes the bus, a slow gate with something to come, a bus and two more gates. */
    private static Deltacycle usedBench() {
        Deltacycle x = Benches.ofInputs(1);
        x.addRegister();
        x.addGate('~', 0, 0, 5);
        x.addBus();
        x.addGate('|', 0, 3, 0);
        x.addGate('^', 0, 1, 0);
        x.connect(1, 3);
        x.pass(7);
        x.reset(1, '1');
        x.setInput(0, '1');
        Check.due("before building: changes", x.changes(5), 1);
        Check.due("before building: to come", x.pending(), 1);
        Check.due("before building: rows were tried", x.isSound(), true);
        return x;
    }

    private static void build(Deltacycle x, int way) {
        switch (way) {
            case 0 -> x.addInput();
            case 1 -> x.addRegister();
            case 2 -> x.addBus();
            case 3 -> x.addGate('=', 0, 0, 0);
            case 4 -> x.addOpen(3, 0, 1, 0);
            case 5 -> x.connect(1, 4);
            default -> Check.due("connected as before", x.connect(1, 3), 3);
        }
    }

    // Changes

    private void lookedAt() {
        says("At a change of nets, all gates and open gates that read one of them are looked at.");
        Deltacycle x = Benches.withBuses(Benches.ofInputs(2), 2);
        for (char kind : Benches.KINDS.toCharArray()) {
            x.addGate(kind, 0, 0, 9);
        }
        x.addGate('&', 1, 0, 9);
        x.addGate('|', 0, 1, 9);
        x.addOpen(2, 0, 0, 9);
        x.addOpen(2, 1, 0, 9);
        x.addOpen(3, 0, 1, 9);
        x.setInput(0, '0');
        Check.due("all readers but '|' with 'x' and the one that 'x' opens", x.pending(), 5 + 1 + 2);
        x.setInput(1, '0');
        Check.due("then those as well", x.pending(), 5 + 2 + 3);
        x.pass(9);
        Check.due("all came", x.pending(), 0);
    }

    private void comesLater() {
        says("If nothing is to come from it, and it gives something other than what it gave last,"
                + " this is to come as many steps later as its delay tells.");
        for (int delay = 1; delay <= 9; delay++) {
            Deltacycle x = Benches.withBuses(Benches.ofInputs(2), 1);
            x.addGate('&', 0, 1, delay);
            x.addOpen(2, 0, 0, delay);
            x.pass(3);
            x.setInput(1, '1');
            Check.due("what gives as before has nothing to come", x.pending(), 0);
            x.setInput(0, '1');
            Check.due("both have", x.pending(), 2);
            x.pass(delay);
            Check.due("the gate after " + delay, x.lastChange(3), 3 + delay);
            Check.due("the bus after " + delay, x.lastChange(2), 3 + delay);
            Check.due("both came", x.pending(), 0);
        }
    }

    private void comesInstead() {
        says("If something is to come from it, and it gives the same, all stays; if it gives what it gave last,"
                + " nothing is to come from it any more; and if it gives a third value, this is to come instead,"
                + " as many steps later as its delay tells.");
        Deltacycle x = Benches.ofInputs(2);
        x.addGate('&', 0, 1, 9);
        x.setInput(0, '0');
        x.pass(8);
        x.setInput(1, '0');
        Check.due("the same: still to come", x.pending(), 1);
        x.pass(1);
        Check.due("the same: at its first time", x.lastChange(2), 9);
        Benches.set(x, "11");
        Check.due("another one is to come", x.pending(), 1);
        x.pass(8);
        x.setInput(0, '0');
        Check.due("what it gave last: nothing to come", x.pending(), 0);
        x.pass(9);
        Check.due("what it gave last: no change", x.changes(2), 1);
        x.setInput(0, '1');
        x.pass(8);
        x.setInput(1, 'z');
        Check.due("a third value: one alone", x.pending(), 1);
        int last = x.pass(1) + 8;
        Check.due("a third value: the first does not come", x.value(2), '0');
        x.pass(7);
        Check.due("a third value: not yet", x.value(2), '0');
        x.pass(2);
        Check.due("a third value", x.value(2), 'x');
        Check.due("a third value: as much later", x.lastChange(2), last);
    }

    private void comesTogether() {
        says("What is to come in the same step comes at once, all of it together, and is a change of nets again,"
                + " as far as values differ; then that which comes of it, and so on.");
        Deltacycle x = Benches.ofInputs(1);
        x.addGate('~', 0, 0, 3);
        x.addGate('=', 0, 0, 3);
        x.addGate('^', 1, 2, 0);
        Benches.set(x, "0");
        x.pass(3);
        Benches.set(x, "1");
        x.pass(3);
        Check.due("both at once: no change behind them", x.changes(3), 1);
        oneBehindTheOther();
        valuesThatDoNotDiffer();
    }

    private static void oneBehindTheOther() {
        Deltacycle chain = Benches.chain('~', 0);
        chain.setInput(0, '0');
        Check.due("39 gates in one step", chain.value(39), '1');
        Check.due("each changes once", chain.changes(39), 1);
    }

    private static void valuesThatDoNotDiffer() {
        Deltacycle x = Benches.withBuses(Benches.ofInputs(2), 1);
        x.addGate('~', 1, 1, 0);
        x.addOpen(2, 0, 1, 2);
        x.addOpen(2, 0, 3, 2);
        x.addGate('~', 2, 2, 0);
        Benches.set(x, "11");
        x.pass(2);
        Check.due("by the first open gate", x.value(2), '1');
        x.setInput(1, '0');
        Check.due("both open gates have something to come", x.pending(), 2);
        x.pass(2);
        Check.due("by the second one", x.value(2), '1');
        Check.due("the bus does not change", x.changes(2), 1);
        Check.due("nor what reads it", x.changes(4), 1);
    }

    private void comesFirst() {
        says("In each step of time, what is to come then comes first.");
        Deltacycle x = Benches.ofInputs(2);
        x.addGate('=', 0, 0, 2);
        x.addGate('=', 1, 1, 1);
        x.addGate('&', 2, 3, 0);
        x.addRegister();
        x.connect(5, 4);
        x.setInput(0, '1');
        x.pass(1);
        x.setInput(1, '1');
        Check.due("ahead of the step", x.tick(), 0);
        x.pass(1);
        Check.due("both came in the step", x.changes(4), 1);
        x.setInput(0, '0');
        Check.due("it came first", x.value(2), '1');
        Check.due("the register takes what came", x.tick(), 1);
        Check.due("no time passes", x.pass(1), 3);
    }

    // Inputs and clocks

    private void settingInputs() {
        says("To set an input is a change.");
        Deltacycle x = Benches.ofInputs(1);
        x.addGate('=', 0, 0, 0);
        String values = "0011xxzzxz";
        int[] counted = {1, 1, 2, 2, 3, 3, 4, 4, 5, 6};
        for (int i = 0; i < values.length(); i++) {
            x.setInput(0, values.charAt(i));
            Check.due("changes with the value " + i, x.changes(0), counted[i]);
        }
        Check.due("behind it 'z' and 'x' do not differ", x.changes(1), 3);
        Deltacycle alone = Benches.ofInputs(1);
        alone.setInput(0, 'x');
        Check.due("to what it has: no change", alone.changes(0), 0);
        Check.dueThrow("to what it has: no time", NoSuchElementException.class, () -> alone.lastChange(0));
    }

    private void ticks() {
        says("At a tick, all registers that take a net get its value at once, 'x' for 'z';"
                + " this is one change, of those whose value differs.");
        Check.due("without registers", Benches.ofInputs(1).tick(), 0);
        Deltacycle x = new Deltacycle();
        for (int net = 0; net < Benches.MOST_SOURCES; net++) {
            x.addRegister();
        }
        for (int net = 0; net < Benches.MOST_SOURCES; net++) {
            x.connect(net, (net + 1) % Benches.MOST_SOURCES);
        }
        x.addGate('^', 0, 1, 0);
        x.reset(0, '1');
        for (int net = 1; net < Benches.MOST_SOURCES; net++) {
            x.reset(net, net % 2 == 0 ? '1' : '0');
        }
        Check.due("all change over at once", x.tick(), 8);
        Check.due("the first", x.value(0), '0');
        Check.due("the last takes what the first had", x.value(7), '1');
        Check.due("one change: what reads both does not change", x.changes(8), 1);
        x.reset(0, '1');
        Check.due("those alone whose value differs", x.tick(), 6);
        undrivenIsTaken();
    }

    private static void undrivenIsTaken() {
        Deltacycle x = Benches.withBuses(Benches.ofInputs(1), 1);
        x.addRegister();
        x.connect(2, 1);
        Check.due("'x' for 'z' does not differ from 'x'", x.tick(), 0);
        Check.due("no change", x.changes(2), 0);
        x.reset(2, '0');
        Check.due("'x' for 'z' differs from '0'", x.tick(), 1);
        Check.due("'x' for 'z' of a bus", x.value(2), 'x');
        x.connect(2, 0);
        x.setInput(0, 'z');
        x.reset(2, '1');
        Check.due("'x' for 'z' differs from '1'", x.tick(), 1);
        Check.due("'x' for 'z' of an input", x.value(2), 'x');
        Check.due("the input keeps 'z'", x.value(0), 'z');
    }

    private void resets() {
        says("So is a reset of a register.");
        Deltacycle x = Benches.ofInputs(1);
        x.addRegister();
        x.addGate('~', 1, 1, 0);
        x.pass(4);
        x.reset(1, '1');
        Check.due("a change", x.changes(1), 1);
        Check.due("at its time", x.lastChange(1), 4);
        Check.due("what reads it is looked at", x.value(2), '0');
        x.pass(1);
        x.reset(1, '1');
        Check.due("to what it has: no change", x.changes(1), 1);
        Check.due("to what it has: the time stays", x.lastChange(1), 4);
    }

    // Settled

    private void settled() {
        says("The settled value of a net is what comes of inputs and registers as they are now, without delays.");
        Deltacycle x = Benches.chain('~', 9);
        Check.due("all unknown", x.settled(39), 'x');
        x.setInput(0, '0');
        Check.due("at once over 39 gates", x.settled(39), '1');
        Check.due("not the value", x.value(39), 'x');
        Check.due("nothing comes of it", x.pending(), 1);
        x.setInput(0, 'z');
        Check.due("an input as it is", x.settled(0), 'z');
        Check.due("behind it", x.settled(1), 'x');
        Deltacycle register = Benches.ofInputs(1);
        register.addRegister();
        register.connect(1, 0);
        register.setInput(0, '1');
        Check.due("a register as it is now, not what it takes", register.settled(1), 'x');
    }

    // Delays

    private void arrivals() {
        says("The arrival of a net is 0 for inputs and registers; for a gate, the greatest arrival of what it reads plus"
                + " its delay; for a bus, the greatest one of its open gates, reckoned likewise, or 0.");
        Deltacycle x = Benches.chain('=', 9);
        Check.due("an input", x.arrival(0), 0);
        Check.due("the most that can be", x.arrival(39), 351);
        Check.due("without delays", Benches.chain('=', 0).arrival(39), 0);
        Deltacycle y = Benches.withBuses(Benches.ofInputs(1), 1);
        y.addGate('=', 0, 0, 9);
        y.addGate('^', 0, 2, 1);
        y.addGate('^', 3, 0, 1);
        y.addRegister();
        y.connect(5, 4);
        Check.due("by the second net", y.arrival(3), 10);
        Check.due("by the first net", y.arrival(4), 11);
        Check.due("a register, whatever it takes", y.arrival(5), 0);
        Check.due("a bus without open gates", y.arrival(1), 0);
        y.addOpen(1, 0, 0, 0);
        Check.due("a bus with an open gate without delay", y.arrival(1), 0);
        y.addOpen(1, 4, 0, 0);
        y.addOpen(1, 0, 4, 1);
        y.addOpen(1, 0, 5, 9);
        Check.due("a bus by the greatest of four", y.arrival(1), 12);
    }

    private void slacks() {
        says("The slack of a net, by a period, is the period less the greatest delay of all ways through this net,"
                + " from an input or a register on, to a net that no gate and no open gate reads, or that a register takes;"
                + " the way ends there, or goes on.");
        Deltacycle x = Benches.chain('~', 9);
        for (int net = 0; net < Benches.MOST_NETS; net += 13) {
            Check.due("the greatest period at " + net, x.slack(net, 99), 99 - 351);
            Check.due("the least period at " + net, x.slack(net, 1), 1 - 351);
        }
        Deltacycle y = Benches.ofInputs(2);
        y.addGate('~', 0, 0, 2);
        y.addGate('&', 2, 1, 3);
        y.addRegister();
        y.connect(4, 2);
        Check.due("the way goes on from a net that is taken", y.slack(2, 10), 10 - 5);
        Check.due("a register that nothing reads", y.slack(4, 10), 10);
        y.addGate('=', 4, 4, 9);
        Check.due("the way begins at a register", y.slack(4, 10), 1);
        Check.due("it does not go through one", y.slack(2, 10), 10 - 5);
        Check.due("ways through the net alone", y.slack(1, 10), 10 - 3);
        y.connect(4, 5);
        Check.due("a register round itself", y.slack(5, 10), 1);
    }

    // Standing

    private void standings() {
        says("A net stands for itself, but the output of a gate stands for another net thus: that of '=' for what the net"
                + " stands for that it reads; that of '~', if the net that it reads stands for the output of another '~',"
                + " for what the net stands for that this other one reads; that of '&' and '|', if both nets that they read"
                + " stand for the same one, for this one; and otherwise, that of each gate for the lowest output of a gate of"
                + " its kind whose read nets stand for the same ones, in either order.");
        for (char kind : "=&|".toCharArray()) {
            Deltacycle x = Benches.chain(kind, 1);
            Check.due("over 39 of " + kind, x.stands(39), 0);
        }
        Deltacycle x = Benches.chain('~', 0);
        Check.due("over 39 of '~'", x.stands(39), 1);
        Check.due("over 38 of '~'", x.stands(38), 0);
        Deltacycle y = Benches.chain('^', 0);
        Check.due("'^' over '^'", y.stands(39), 39);
        Deltacycle z = Benches.ofInputs(2);
        z.addRegister();
        z.connect(2, 0);
        Check.due("an input", z.stands(1), 1);
        Check.due("a register that takes", z.stands(2), 2);
        for (char kind : "&|^".toCharArray()) {
            int lowest = z.addGate(kind, 0, 1, 1);
            Check.due("the lowest of " + kind, z.stands(lowest), lowest);
            Check.due("in the same order", z.stands(z.addGate(kind, 0, 1, 9)), lowest);
            Check.due("in the other order", z.stands(z.addGate(kind, 1, 0, 0)), lowest);
        }
    }

    private void standingsForBuses() {
        says("But no net stands for a bus other than itself; where one would by the first rules, the last one holds for it.");
        Deltacycle x = Benches.withBuses(Benches.ofInputs(1), 2);
        for (char kind : "=&|".toCharArray()) {
            int lowest = x.addGate(kind, 1, 1, 0);
            Check.due(kind + " of a bus", x.stands(lowest), lowest);
            Check.due(kind + " of the bus again", x.stands(x.addGate(kind, 1, 1, 5)), lowest);
            int other = x.addGate(kind, 2, 2, 0);
            Check.due(kind + " of another bus", x.stands(other), other);
            Check.due("'=' of " + kind, x.stands(x.addGate('=', lowest, lowest, 0)), lowest);
        }
        int not = x.addGate('~', 1, 1, 0);
        int back = x.addGate('~', not, not, 0);
        Check.due("'~' of '~' of a bus", x.stands(back), back);
        Check.due("'~' of '~' of the bus again", x.stands(x.addGate('~', not, not, 0)), back);
        Check.due("'~' of that", x.stands(x.addGate('~', back, back, 0)), not);
        x.addOpen(1, 0, 0, 0);
        x.addOpen(2, 0, 0, 0);
        Check.due("a bus", x.stands(1), 1);
        Check.due("another bus, driven alike", x.stands(2), 2);
        Check.due("what reads it", x.stands(5), 5);
        Check.due("sound", x.isSound(), true);
    }

    // Rows

    private void rows() {
        says("A row is a number with one bit for each input and register, by rising nets, the lowest bit first:"
                + " '1' for 1 and '0' for 0.");
        Deltacycle x = new Deltacycle();
        for (int i = 0; i < Benches.MOST_SOURCES; i++) {
            int rows = 1 << i;
            Check.dueThrow("with " + i + " of them, row " + rows, NoSuchElementException.class, () -> x.addTest(rows));
            Check.dueThrow("with " + i + " of them, row -1", NoSuchElementException.class, () -> x.addTest(-1));
            Check.due("with " + i + " of them, the last row", x.addTest(rows - 1), i + 1);
            x.addBus();
            int source = i % 3 == 1 ? x.addRegister() : x.addInput();
            x.addGate('~', source, source, 0);
            x.mark(source, true);
        }
        for (int i = 0; i < Benches.MOST_SOURCES; i++) {
            int source = 3 * i + 1;
            Check.due("the bit of " + source, x.findTest(source, '0'), 1 << i);
            Check.due("the others 0", x.findTest(source, '1'), 0);
            Check.due("the last row", x.shows(source, '0', 255), true);
            Check.due("without its bit", x.shows(source, '1', 255 - (1 << i)), true);
        }
        Check.dueThrow("with 8 of them, row 256", NoSuchElementException.class, () -> x.shows(1, '0', 256));
    }

    private void stuck() {
        says("A net is stuck if it has a told value, '0' or '1', whatever drives it.");
        Deltacycle x = Benches.withBuses(Benches.ofInputs(1), 1);
        x.addRegister();
        x.addGate('=', 0, 0, 0);
        x.addOpen(1, 0, 2, 0);
        for (int net = 0; net < 4; net++) {
            x.mark(net, true);
            Check.due(net + " at '0' with all '1'", x.shows(net, '0', 3), true);
            Check.due(net + " at '1' with all '1'", x.shows(net, '1', 3), false);
            boolean isDriven = net != 1;
            Check.due(net + " at '1' with all '0'", x.shows(net, '1', 0), isDriven);
            Check.due(net + " at '0' with all '0'", x.shows(net, '0', 0), false);
            x.mark(net, false);
        }
    }

    private void showing() {
        says("A row shows that a net is stuck if some net that was marked, or that a register takes, has another settled"
                + " value with it than without it, both values being '0' or '1'.");
        Deltacycle x = Benches.withBuses(Benches.ofInputs(1), 1);
        x.addGate('~', 0, 0, 9);
        x.addGate('&', 2, 1, 0);
        x.addRegister();
        Check.due("nothing marked nor taken", x.shows(0, '1', 0), false);
        x.mark(2, true);
        Check.due("a marked net behind it", x.shows(0, '1', 0), true);
        x.mark(2, false);
        Check.due("not marked any more", x.shows(0, '1', 0), false);
        x.connect(4, 2);
        Check.due("a net that is taken behind it", x.shows(0, '1', 0), true);
        x.connect(4, 0);
        Check.due("net 0 is taken", x.shows(0, '1', 0), true);
        x.connect(4, 1);
        Check.due("not taken any more", x.shows(0, '1', 0), false);
        x.mark(3, true);
        Check.due("from 'x' to '0'", x.shows(0, '1', 0), false);
        Check.due("from '0' to 'x'", x.shows(0, '0', 1), false);
        Check.due("from 'z' to '1' and 'x' to '1'", x.shows(1, '1', 0), false);
        Check.due("from '0' to '0'", x.shows(1, '1', 1), false);
    }

    private void tests() {
        says("A test is a row, kept in a list.");
        Deltacycle x = Benches.ofInputs(1);
        Check.due("the first", x.addTest(1), 1);
        Check.due("the same row is another test", x.addTest(1), 2);
        Check.due("any order", x.addTest(0), 3);
        x.addInput();
        Check.due("kept over building", x.addTest(3), 4);
        x.mark(0, true);
        x.mark(1, true);
        Check.due("all four tests are tried", x.shown(), 4);
    }

    // Clarifications

    private void clarifications() {
        says("An open gate that reads 'z' gives 'x' if it is opened by '1'.");
        Deltacycle x = Benches.withBuses(Benches.ofInputs(2), 2);
        x.addOpen(2, 0, 1, 0);
        x.addOpen(2, 3, 1, 0);
        Benches.set(x, "z1");
        Check.due("opened by '1'", x.value(2), 'x');
        Benches.set(x, "11");
        Check.due("one that reads a bus with 'z' gives 'x'", x.value(2), 'x');
        Benches.set(x, "z0");
        Check.due("opened by '0'", x.value(2), 'z');
        noTimeByTicks();
        waysFromBuses();
        undrivenDiffersFromUnknown();
        readingTwice();
    }

    private void noTimeByTicks() {
        says("No time passes by a tick.");
        Deltacycle x = Benches.ofInputs(1);
        x.addRegister();
        x.addGate('~', 1, 1, 1);
        x.connect(1, 2);
        x.reset(1, '0');
        Check.due("it takes what has not come yet", x.tick(), 1);
        Check.due("'x' was taken", x.value(1), 'x');
        x.reset(1, '0');
        x.pass(1);
        for (int i = 0; i < 5; i++) {
            x.tick();
        }
        Check.due("the time", x.pass(1), 2);
        Check.due("the change came with the tick", x.lastChange(1), 1);
    }

    private void waysFromBuses() {
        says("A way through a net may also begin at a bus without open gates.");
        Deltacycle x = Benches.withBuses(Benches.ofInputs(1), 1);
        Check.due("the bus alone", x.slack(1, 1), 1);
        x.addGate('~', 1, 1, 9);
        Check.due("from the bus on", x.slack(1, 9), 0);
        Check.due("the net behind it", x.slack(2, 9), 0);
        x.addOpen(1, 0, 0, 1);
        Check.due("from the input on", x.slack(1, 9), -1);
    }

    private void undrivenDiffersFromUnknown() {
        says("'z' and 'x' are different settled values for differs().");
        Deltacycle x = Benches.withBuses(Benches.ofInputs(1), 2);
        x.addGate('=', 1, 1, 0);
        Check.due("'z' and 'x'", x.differs(1, 3), 0);
        Check.due("'x' and 'z'", x.differs(3, 1), 0);
        Check.due("'z' and 'z'", x.differs(1, 2), -1);
        Check.due("'x' and 'x'", x.differs(3, 3), -1);
    }

    private void readingTwice() {
        says("A gate that reads a net twice counts once in activity().");
        Deltacycle x = Benches.withBuses(Benches.ofInputs(1), 1);
        x.addGate('&', 0, 0, 9);
        x.setInput(0, '1');
        Check.due("a gate", x.activity(), 2L);
        x.addOpen(1, 0, 0, 9);
        x.setInput(0, '1');
        Check.due("an open gate", x.activity(), 3L);
        x.addOpen(1, 0, 0, 9);
        x.setInput(0, '1');
        Check.due("two open gates of one bus", x.activity(), 4L);
    }
}
