import java.util.NoSuchElementException;

/** What the promises say one by one of what they do, take and return, each at its edges; Refusals has what they throw. */
final class PromiseSentences {
    private static final Class<IndexOutOfBoundsException> INDEX = IndexOutOfBoundsException.class;

    private final Document document;

    PromiseSentences(Document document) {
        this.document = document;
    }

    void check() {
        newObject();
        addInput();
        addGate();
        addBus();
        addOpen();
        addRegister();
        connect();
        mark();
        setInput();
        tick();
        reset();
        pass();
        value();
        changes();
        lastChange();
        pending();
        settled();
        arrival();
        slack();
        stands();
        differs();
        shows();
        findTest();
        addTest();
        shown();
        activity();
        knownShare();
        meanArrival();
        isSound();
    }

    private void says(int promise, String... sentences) {
        for (String sentence : sentences) {
            document.quote(promise, sentence);
        }
    }

    // Building

    private void newObject() {
        says(1, "Creates a circuit without nets.");
        Deltacycle x = new Deltacycle();
        Check.dueThrow("value(0)", INDEX, () -> x.value(0));
        Check.dueThrow("settled(0)", INDEX, () -> x.settled(0));
        Check.dueThrow("mark(0, true)", INDEX, () -> x.mark(0, true));
        Check.dueThrow("knownShare()", ArithmeticException.class, x::knownShare);
        Check.dueThrow("meanArrival()", ArithmeticException.class, x::meanArrival);
        Check.due("tick()", x.tick(), 0);
        Check.due("pending()", x.pending(), 0);
        Check.due("shown()", x.shown(), 0);
        Check.due("activity()", x.activity(), 0L);
        Check.due("isSound()", x.isSound(), true);
        Check.due("the time is 0", x.pass(1), 1);
        Check.due("there is one row, and no test", x.addTest(0), 1);
        Check.due("another object is another circuit", new Deltacycle().addTest(0), 1);
    }

    private void addInput() {
        says(2, "Makes an input.", "Returns the number of the net.");
        Deltacycle x = new Deltacycle();
        for (int i = 0; i < Benches.MOST_SOURCES; i++) {
            Check.due("input " + i, x.addInput(), i);
            Check.due("its value", x.value(i), 'x');
            Check.due("it can be set", x.setInput(i, '1'), 'x');
        }
        Deltacycle late = Benches.withBuses(new Deltacycle(), 39);
        Check.due("an input as the last net", late.addInput(), 39);
        Check.due("it can be set", late.setInput(39, 'z'), 'x');
    }

    private void addGate() {
        says(3, "Makes a gate.", "`kind`: '~', '=', '&', '|' or '^'", "`first`: a net that it reads",
                "`second`: the other one; of no meaning for '~' and '='", "`delay`: its delay, 0 to 9",
                "Returns the number of the net that it drives.");
        for (char kind : Benches.KINDS.toCharArray()) {
            Deltacycle x = Benches.ofInputs(2);
            Check.due("the first net and the least delay for " + kind, x.addGate(kind, 0, 1, 0), 2);
            Check.due("the last net and the greatest delay for " + kind, x.addGate(kind, 2, 0, 9), 3);
            Check.due("the net made last, twice, for " + kind, x.addGate(kind, 3, 3, 9), 4);
            Check.due("its arrival", x.arrival(4), 18);
        }
        for (char kind : "~=".toCharArray()) {
            Deltacycle x = Benches.ofInputs(1);
            int net = 1;
            for (int second : new int[] {-1, 1, 2, 40, Integer.MAX_VALUE, Integer.MIN_VALUE}) {
                Check.due(kind + " whatever the second is: " + second, x.addGate(kind, 0, second, 0), net);
                Check.due("it does not read it", x.activity(), 0L);
                net++;
            }
        }
        secondIsNotRead();
    }

    private void secondIsNotRead() {
        Deltacycle x = Benches.ofInputs(2);
        x.addGate('=', 0, 1, 9);
        x.addGate('~', 0, 2, 5);
        x.setInput(1, '1');
        Check.due("the second is not read", x.activity(), 1L);
        Check.due("nothing comes of the second", x.pending(), 0);
        Check.due("the second does not count for the arrival", x.arrival(3), 5);
        Check.due("the second does not count for the slack", x.slack(2, 9), 0);
    }

    private void addBus() {
        says(4, "Makes a bus.", "Returns the number of the net.");
        Deltacycle x = new Deltacycle();
        for (int net = 0; net < Benches.MOST_NETS; net++) {
            Check.due("bus " + net, x.addBus(), net);
            Check.due("its value", x.value(net), 'z');
        }
    }

    private void addOpen() {
        says(5, "Makes an open gate for a bus.", "`bus`: the number of the bus", "`first`: the net that it reads",
                "`opener`: the net that opens it", "`delay`: its delay, 0 to 9", "Returns how many open gates the bus has.");
        Deltacycle x = Benches.withBuses(Benches.ofInputs(1), 39);
        for (int i = 1; i <= 4; i++) {
            Check.due("open gate of the first bus", x.addOpen(1, 39, 0, i == 1 ? 0 : 9), i);
            Check.due("open gate of the last bus", x.addOpen(39, 0, 0, i == 1 ? 9 : 0), i);
        }
        Check.due("open gate of another bus", x.addOpen(2, 0, 39, 9), 1);
        Check.due("from the last net to the first", x.arrival(1), 18);
        for (int delay = 0; delay <= 9; delay++) {
            Deltacycle y = Benches.withBuses(Benches.ofInputs(2), 1);
            y.addOpen(2, 0, 1, delay);
            Benches.set(y, "01");
            for (int time = 0; time < delay; time++) {
                Check.due("too early at " + time + " of " + delay, y.value(2), 'x');
                y.pass(1);
            }
            Check.due("after " + delay, y.value(2), '0');
        }
    }

    private void addRegister() {
        says(6, "Makes a register that takes no net.", "Returns the number of the net that it drives.");
        Deltacycle x = new Deltacycle();
        for (int i = 0; i < Benches.MOST_SOURCES; i++) {
            Check.due("register " + i, x.addRegister(), i);
            x.reset(i, '1');
            Check.due("it takes no net", x.tick(), 0);
            Check.due("it keeps its value", x.value(i), '1');
        }
        Check.due("the last one takes no net", x.connect(7, 0), -1);
        Check.due("a register as the last net", Benches.withBuses(new Deltacycle(), 39).addRegister(), 39);
    }

    private void connect() {
        says(7, "Connects a register to a net that it takes, in place of another one.",
                "`register`: the number of the net that it drives", "`net`: the number of the net that it takes",
                "Returns the net that it took before, or -1.");
        Deltacycle x = Benches.withBuses(Benches.ofInputs(1), 38);
        x.addRegister();
        Check.due("it took none: the first net", x.connect(39, 0), -1);
        Check.due("it took net 0: the last net, itself", x.connect(39, 39), 0);
        Check.due("the same once more", x.connect(39, 39), 39);
        Check.due("a bus", x.connect(39, 38), 39);
        Check.due("the first net again", x.connect(39, 0), 38);
        x.setInput(0, '1');
        Check.due("it takes one net alone", x.tick(), 1);
        Check.due("the one told last", x.value(39), '1');
    }

    private void mark() {
        says(8, "Marks a net, or not any more; this builds nothing.", "`net`: the number of the net",
                "`isMarked`: whether it is marked from now on", "Returns whether it was.");
        Deltacycle x = Benches.chain('=', 9);
        x.pass(5);
        x.setInput(0, '1');
        for (int net : new int[] {0, 1, 39}) {
            Check.due("not marked yet", x.mark(net, false), false);
            Check.due("marked", x.mark(net, true), false);
            Check.due("marked again", x.mark(net, true), true);
            Check.due("not any more", x.mark(net, false), true);
            Check.due("not any more, again", x.mark(net, false), false);
        }
        Check.due("what is to come stays", x.pending(), 1);
        Check.due("values stay", x.value(0), '1');
        Check.due("changes stay", x.lastChange(0), 5);
        Check.due("the time stays", x.pass(9), 14);
        Check.due("it came", x.lastChange(1), 14);
    }

    // Time

    private void setInput() {
        says(9, "Sets an input.", "`input`: the number of the net", "`value`: '0', '1', 'x' or 'z'",
                "Returns the value before.");
        Deltacycle x = Benches.ofInputs(Benches.MOST_SOURCES);
        for (int input = 0; input < Benches.MOST_SOURCES; input++) {
            char before = 'x';
            for (char value : "0011xxzz0x1z0z1x0".toCharArray()) {
                Check.due("before " + value, x.setInput(input, value), before);
                before = value;
            }
            Check.due("the value", x.value(input), '0');
        }
    }

    private void tick() {
        says(10, "Lets the clock tick.", "Returns how many registers changed.");
        Deltacycle x = Benches.ofInputs(1);
        Check.due("without registers", x.tick(), 0);
        for (int net = 1; net < Benches.MOST_SOURCES; net++) {
            x.addRegister();
            Check.due("without a net", x.tick(), 0);
        }
        for (int net = 1; net < Benches.MOST_SOURCES; net++) {
            x.connect(net, 0);
        }
        Check.due("'x' for 'x'", x.tick(), 0);
        x.setInput(0, '1');
        x.reset(3, '1');
        Check.due("all but the one that has it", x.tick(), 6);
        Check.due("none any more", x.tick(), 0);
        x.setInput(0, '0');
        Check.due("all seven", x.tick(), 7);
        x.setInput(0, 'z');
        Check.due("all seven to 'x'", x.tick(), 7);
        x.setInput(0, 'x');
        Check.due("'x' as before", x.tick(), 0);
    }

    private void reset() {
        says(11, "Resets a register.", "`register`: the number of the net", "`value`: '0' or '1'",
                "Returns the value before.");
        Deltacycle x = new Deltacycle();
        for (int register = 0; register < Benches.MOST_SOURCES; register++) {
            x.addRegister();
            char before = 'x';
            for (char value : "0011010".toCharArray()) {
                Check.due("before " + value, x.reset(register, value), before);
                before = value;
            }
            Check.due("the value", x.value(register), '0');
            Check.due("changes to the same do not count", x.changes(register), 5);
        }
        x.connect(0, 1);
        x.reset(0, '1');
        Check.due("the others are not reset", x.value(1), 'x');
        Check.due("it still takes its net", x.tick(), 1);
    }

    private void pass() {
        says(12, "Lets time pass.", "`steps`: the number of steps, 1 to 100", "Returns the time then.");
        Deltacycle x = Benches.ofInputs(1);
        x.addGate('=', 0, 0, 9);
        Check.due("the least", x.pass(1), 1);
        Check.due("the most", x.pass(100), 101);
        for (int hundred = 2; hundred < 100; hundred++) {
            Check.due("and on", x.pass(100), 100 * hundred + 1);
        }
        Check.due("to 9990", x.pass(89), 9990);
        x.setInput(0, '1');
        Check.due("to the last time", x.pass(9), 9999);
        Check.due("the last step lets it come", x.lastChange(1), 9999);
        x.setInput(0, '0');
        Check.due("a change at the last time", x.lastChange(0), 9999);
        Check.due("what would come later stays to come", x.pending(), 1);
        x.addBus();
        Check.due("after building", x.pass(100), 100);
    }

    private void value() {
        says(13, "Returns the value of a net.", "`net`: the number of the net", "Returns the value.");
        Deltacycle x = Benches.chain('=', 1);
        x.setInput(0, '1');
        Check.due("the first net", x.value(0), '1');
        x.pass(38);
        Check.due("the last net, not yet", x.value(39), 'x');
        x.pass(1);
        Check.due("the last net", x.value(39), '1');
    }

    private void changes() {
        says(14, "Returns how often a net has changed.", "`net`: the number of the net", "Returns the number of times.");
        Deltacycle x = Benches.chain('~', 0);
        for (int i = 0; i < 200; i++) {
            Check.due("before", x.changes(39), i);
            x.setInput(0, i % 2 == 0 ? '0' : '1');
        }
        Check.due("the first net", x.changes(0), 200);
        Deltacycle y = Benches.ofInputs(1);
        y.addGate('~', 0, 0, 0);
        y.addGate('&', 0, 1, 0);
        Benches.set(y, "0");
        Benches.set(y, "1");
        Check.due("twice within one step", y.changes(2), 3);
    }

    private void lastChange() {
        says(15, "Returns when a net changed last.", "`net`: the number of the net", "Returns the time.");
        Deltacycle x = Benches.chain('=', 9);
        x.setInput(0, '1');
        Check.due("at time 0", x.lastChange(0), 0);
        for (int net = 1; net < Benches.MOST_NETS; net++) {
            int one = net;
            Check.dueThrow("not yet", NoSuchElementException.class, () -> x.lastChange(one));
            x.pass(9);
            Check.due("as late as it arrives", x.lastChange(net), x.arrival(net));
        }
        x.setInput(0, 'z');
        Check.due("later", x.lastChange(0), 351);
        Check.due("the one before stays", x.lastChange(1), 9);
    }

    /** Of 40 nets 8 are inputs, 20 buses with four open gates each, and 12 gates. */
    private void pending() {
        says(16, "Returns from how many gates and open gates something is to come.", "Returns their number.");
        Deltacycle x = Benches.withBuses(Benches.ofInputs(8), 20);
        for (int bus = 8; bus < 28; bus++) {
            for (int i = 0; i < 4; i++) {
                x.addOpen(bus, i, 0, 1);
            }
        }
        for (int i = 0; i < 12; i++) {
            x.addGate('=', 0, 0, 2);
        }
        Check.due("none", x.pending(), 0);
        x.setInput(0, '0');
        Check.due("all of them", x.pending(), 92);
        x.pass(1);
        Check.due("the gates alone", x.pending(), 12);
        x.setInput(0, 'x');
        Check.due("the open gates alone", x.pending(), 80);
        x.pass(1);
        Check.due("none any more", x.pending(), 0);
    }

    private void settled() {
        says(17, "Returns the settled value of a net.", "`net`: the number of the net", "Returns the value.");
        Deltacycle x = Benches.chain('~', 9);
        for (char value : Benches.VALUES.toCharArray()) {
            x.setInput(0, value);
            boolean isKnown = value == '0' || value == '1';
            Check.due("the first net with " + value, x.settled(0), value);
            Check.due("a net in the middle with " + value, x.settled(20), isKnown ? value : 'x');
            Check.due("the last net with " + value, x.settled(39), isKnown ? (char) ('0' + '1' - value) : 'x');
        }
        Check.due("values are not settled by it", x.value(20), 'x');
    }

    // Delays and standing

    private void arrival() {
        says(18, "Returns the arrival of a net.", "`net`: the number of the net", "Returns the arrival.");
        Deltacycle x = Benches.chain('~', 9);
        for (int net = 0; net < Benches.MOST_NETS; net++) {
            Check.due("arrival of " + net, x.arrival(net), 9 * net);
        }
        x.setInput(0, '1');
        x.pass(3);
        Check.due("time is of no meaning", x.arrival(1), 9);
    }

    private void slack() {
        says(19, "Returns the slack of a net.", "`net`: the number of the net", "`period`: the period, 1 to 99",
                "Returns the slack.");
        Deltacycle x = Benches.chain('~', 9);
        Check.due("the least period", x.slack(0, 1), -350);
        Check.due("the greatest period", x.slack(39, 99), -252);
        Deltacycle y = Benches.ofInputs(1);
        Check.due("the least period alone", y.slack(0, 1), 1);
        Check.due("the greatest period alone", y.slack(0, 99), 99);
        y.addGate('=', 0, 0, 9);
        Check.due("nothing left", y.slack(1, 9), 0);
    }

    private void stands() {
        says(20, "Returns for what a net stands.", "`net`: the number of the net", "Returns the number of the net.");
        Deltacycle x = Benches.chain('=', 9);
        Check.due("the first net", x.stands(0), 0);
        Check.due("the last net", x.stands(39), 0);
    }

    private void differs() {
        says(21, "Returns the least row with which two nets have different settled values.",
                "`first`: the number of a net", "`second`: the number of another one, or the same",
                "Returns the row, or -1 if there is none.");
        Deltacycle x = Benches.ofInputs(Benches.MOST_SOURCES);
        for (int net = 0; net < Benches.MOST_SOURCES; net++) {
            Check.due("the same", x.differs(net, net), -1);
            Check.due("another one", x.differs(net, 7 - net), 1 << Math.min(net, 7 - net));
        }
        int all = 0;
        for (int net = 1; net < Benches.MOST_SOURCES; net++) {
            all = x.addGate('&', all, net, 9);
        }
        int none = x.addGate('^', 0, 0, 0);
        Check.due("the last row", x.differs(all, none), 255);
        Check.due("the other way", x.differs(none, all), 255);
        int some = x.addGate('~', none, none, 0);
        Check.due("row 0", x.differs(none, some), 0);
        Check.due("none", x.differs(x.addGate('=', all, all, 0), all), -1);
        Deltacycle y = Benches.withBuses(new Deltacycle(), 2);
        Check.due("without inputs there is row 0 alone", y.differs(0, 1), -1);
    }

    // Tests

    private void shows() {
        says(22, "Returns whether a row shows that a net is stuck.", "`net`: the number of the net", "`value`: '0' or '1'",
                "`row`: the row", "Returns whether it does.");
        Deltacycle x = Benches.ofInputs(Benches.MOST_SOURCES);
        x.mark(0, true);
        x.mark(7, true);
        Check.due("the first net by the first row", x.shows(0, '1', 0), true);
        Check.due("the first net by the last row", x.shows(0, '0', 255), true);
        Check.due("the last net by the first row", x.shows(7, '1', 0), true);
        Check.due("the last net by the last row", x.shows(7, '0', 255), true);
        Check.due("it has that value", x.shows(7, '0', 127), false);
        Check.due("it has that value", x.shows(7, '1', 128), false);
        Check.due("not watched", x.shows(6, '0', 255), false);
        Deltacycle y = Benches.withBuses(new Deltacycle(), 1);
        y.mark(0, true);
        Check.due("without inputs there is row 0", y.shows(0, '1', 0), false);
    }

    private void findTest() {
        says(23, "Returns the least row that shows that a net is stuck.", "`net`: the number of the net",
                "`value`: '0' or '1'", "Returns the row.");
        Deltacycle x = Benches.ofInputs(Benches.MOST_SOURCES);
        int all = 0;
        for (int net = 1; net < Benches.MOST_SOURCES; net++) {
            all = x.addGate('&', all, net, 9);
        }
        x.mark(all, true);
        Check.due("the last row", x.findTest(all, '0'), 255);
        Check.due("the first row", x.findTest(all, '1'), 0);
        for (int net = 0; net < Benches.MOST_SOURCES; net++) {
            Check.due("net " + net + " at '0'", x.findTest(net, '0'), 255);
            Check.due("net " + net + " at '1'", x.findTest(net, '1'), 255 - (1 << net));
        }
        Deltacycle y = new Deltacycle();
        y.addRegister();
        y.connect(0, 0);
        Check.due("a register that takes itself", y.findTest(0, '0'), 1);
        Check.due("a register that takes itself", y.findTest(0, '1'), 0);
    }

    private void addTest() {
        says(24, "Adds a test.", "`row`: the row", "Returns the number of tests.");
        Deltacycle x = Benches.ofInputs(Benches.MOST_SOURCES);
        for (int i = 1; i <= 8; i++) {
            Check.due("test " + i, x.addTest(i % 2 == 0 ? 0 : 255), i);
        }
        x.mark(0, true);
        Check.due("both rows are kept", x.shown(), 2);
        Check.due("without inputs there is row 0", new Deltacycle().addTest(0), 1);
    }

    private void shown() {
        says(25, "Returns how many nets are shown to be stuck by some test, each at '0' and at '1'.",
                "Returns the number, two for a net that is shown for both.");
        Deltacycle x = Benches.ofInputs(1);
        for (int net = 0; net < Benches.MOST_NETS - 1; net++) {
            x.addGate(net % 3 == 0 ? '~' : '=', net, net, 9);
        }
        x.mark(39, true);
        Check.due("without tests", x.shown(), 0);
        x.addTest(1);
        Check.due("each net once", x.shown(), 40);
        x.addTest(1);
        Check.due("the same test again", x.shown(), 40);
        x.addTest(0);
        Check.due("each net twice", x.shown(), 80);
        x.mark(39, false);
        Check.due("nothing marked", x.shown(), 0);
        x.mark(0, true);
        Check.due("the first net alone", x.shown(), 2);
        theLastTestIsTried();
    }

    private void theLastTestIsTried() {
        Deltacycle x = Benches.ofInputs(3);
        Benches.set(x, "111");
        for (int row = 0; row < 7; row++) {
            x.addTest(0);
        }
        x.mark(2, true);
        Check.due("by all seven rows the same", x.shown(), 1);
        x.addTest(4);
        Check.due("by the eighth one more", x.shown(), 2);
    }

    // Figures

    private void activity() {
        says(26, "Returns the sum of all changes of all nets, each times 1 more than the number of gates and open gates that"
                + " read the net.", "Returns the sum.");
        Deltacycle x = Benches.ofInputs(1);
        Check.due("before all changes", x.activity(), 0L);
        x.setInput(0, '1');
        Check.due("a net that nothing reads", x.activity(), 1L);
        for (int net = 1; net < Benches.MOST_NETS; net++) {
            x.addGate('~', 0, 0, 0);
        }
        Check.due("after building", x.activity(), 0L);
        for (int i = 1; i <= 400; i++) {
            x.setInput(0, i % 2 == 0 ? '0' : '1');
        }
        Check.due("400 changes of each net, 39 gates read one", x.activity(), 400L * (40 + 39));
        Deltacycle y = Benches.withBuses(Benches.ofInputs(2), 1);
        y.addOpen(2, 0, 1, 0);
        y.addRegister();
        y.connect(3, 0);
        Benches.set(y, "11");
        Check.due("a register does not read", y.activity(), 2L + 2L + 1L);
        y.tick();
        Check.due("it changes", y.activity(), 5L + 1L);
    }

    private void knownShare() {
        says(27, "Returns the share of nets that have '0' or '1'.",
                "Returns their number divided by that of all, both converted to float.");
        Deltacycle x = Benches.ofInputs(1);
        Check.due("none of one", x.knownShare(), 0f);
        x.setInput(0, '0');
        Check.due("one of one", x.knownShare(), 1f);
        x.setInput(0, 'z');
        Check.due("'z' is not known", x.knownShare(), 0f);
        for (int nets = 2; nets <= Benches.MOST_NETS; nets++) {
            x.addBus();
            x.setInput(0, '1');
            Check.due("one of " + nets, x.knownShare(), 1f / nets);
        }
        Deltacycle chain = Benches.chain('~', 1);
        chain.setInput(0, '1');
        for (int net = 1; net < Benches.MOST_NETS; net++) {
            Check.due(net + " of 40", chain.knownShare(), net / 40f);
            chain.pass(1);
        }
        Check.due("40 of 40", chain.knownShare(), 1f);
    }

    private void meanArrival() {
        says(28, "Returns the mean arrival of all nets.",
                "Returns the sum of the arrivals divided by their number, both converted to double.");
        Check.due("one of 0", Benches.ofInputs(1).meanArrival(), 0.0);
        Check.due("0, 9, 18 up to 351", Benches.chain('~', 9).meanArrival(), 7020.0 / 40.0);
        Deltacycle x = Benches.ofInputs(1);
        x.addGate('=', 0, 0, 1);
        x.addBus();
        Check.due("a third", x.meanArrival(), 1.0 / 3.0);
        for (int nets = 4; nets <= Benches.MOST_NETS; nets++) {
            x.addBus();
            Check.due("one of " + nets, x.meanArrival(), 1.0 / nets);
        }
    }

    private void isSound() {
        says(29, "Returns whether all is sound: if nothing is to come, each net has its settled value; and no row gives a net"
                + " another settled value than that for which it stands.", "Returns whether this holds.");
        Deltacycle x = Benches.withBuses(Benches.ofInputs(2), 1);
        x.addGate('~', 0, 0, 3);
        x.addGate('&', 3, 0, 1);
        x.addOpen(2, 4, 1, 2);
        x.addGate('=', 2, 2, 0);
        x.addGate('|', 2, 2, 0);
        Check.due("after building", x.isSound(), true);
        for (char first : Benches.VALUES.toCharArray()) {
            for (char second : Benches.VALUES.toCharArray()) {
                Benches.set(x, "" + first + second);
                Check.due("with something to come", x.isSound(), true);
                x.pass(1);
                Check.due("one step later", x.isSound(), true);
                x.pass(9);
                Check.due("at rest", x.isSound() && x.pending() == 0, true);
            }
        }
        Check.due("without nets", new Deltacycle().isSound(), true);
        Check.due("with 40 nets", Benches.chain('^', 9).isSound(), true);
    }
}
