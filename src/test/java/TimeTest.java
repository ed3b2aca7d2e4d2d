import java.util.NoSuchElementException;

/** Promises 9 to 17. */
final class TimeTest {
    private static final Class<IllegalArgumentException> ARGUMENT = IllegalArgumentException.class;
    private static final Class<IndexOutOfBoundsException> INDEX = IndexOutOfBoundsException.class;

    public static void main(String[] args) {
        setInput();
        tick();
        tickWithoutWait();
        reset();
        pass();
        value();
        changes();
        lastChange();
        pending();
        givesWhatItGaveLast();
        givesAThirdValue();
        givesTheSame();
        changesOfOneStepComeTogether();
        glitchWithoutDelay();
        whatIsToComeComesFirst();
        settled();
        Check.end();
    }

    private static void setInput() {
        Deltacycle x = new Deltacycle();
        x.addInput();
        x.addRegister();
        x.addBus();
        x.addGate('=', 0, 0, 0);
        Check.due("first", x.setInput(0, '0'), 'x');
        Check.due("at once", x.value(3), '0');
        Check.due("second", x.setInput(0, '1'), '0');
        Check.due("third", x.setInput(0, 'z'), '1');
        Check.due("'z' reads 'x'", x.value(3), 'x');
        Check.due("'z' stays", x.value(0), 'z');
        Check.due("fourth", x.setInput(0, 'x'), 'z');
        Check.due("from 'z' to 'x' is a change", x.changes(0), 4);
        Check.due("but not behind it", x.changes(3), 3);
        Check.due("the same", x.setInput(0, 'x'), 'x');
        Check.due("the same is no change", x.changes(0), 4);
        Check.dueThrow("no such net", INDEX, () -> x.setInput(4, '0'));
        Check.dueThrow("no such net", INDEX, () -> x.setInput(-1, '2'));
        Check.dueThrow("a register", INDEX, () -> x.setInput(1, '0'));
        Check.dueThrow("a bus", INDEX, () -> x.setInput(2, 'q'));
        Check.dueThrow("a gate", INDEX, () -> x.setInput(3, '0'));
        for (char value : new char[] {'2', 'X', 'Z', 0, 1, ' ', '/', 'y'}) {
            Check.dueThrow("value " + (int) value, ARGUMENT, () -> x.setInput(0, value));
        }
        Check.due("nothing changed by that", x.value(0), 'x');
    }

    private static void tick() {
        Deltacycle x = new Deltacycle();
        x.addInput();
        x.addRegister();
        x.addRegister();
        x.addRegister();
        x.addBus();
        x.addRegister();
        x.connect(1, 2);
        x.connect(2, 1);
        x.connect(5, 4);
        x.reset(1, '0');
        x.reset(2, '1');
        x.reset(3, '1');
        x.reset(5, '1');
        x.setInput(0, 'z');
        Check.due("two change over, one takes 'z'", x.tick(), 3);
        Check.due("the first takes the second", x.value(1), '1');
        Check.due("the second takes the first", x.value(2), '0');
        Check.due("one that takes no net", x.value(3), '1');
        Check.due("'x' for 'z'", x.value(5), 'x');
        Check.due("an input is not touched", x.value(0), 'z');
        Check.due("the one of 'z' stays", x.tick(), 2);
        Check.due("changes", x.changes(1), 3);
        x.connect(3, 0);
        x.setInput(0, 'z');
        Check.due("'x' for 'z' is no change of 'x'", x.tick(), 0);
        Check.due("no change", x.changes(3), 0);
    }

    private static void tickWithoutWait() {
        Deltacycle x = new Deltacycle();
        x.addInput();
        x.addRegister();
        x.addGate('~', 1, 0, 0);
        x.connect(1, 2);
        x.reset(1, '0');
        Check.due("at once", x.value(2), '1');
        Check.due("tick", x.tick(), 1);
        Check.due("taken once", x.value(1), '1');
        Check.due("given at once", x.value(2), '0');
        Check.due("no time passes", x.lastChange(1), 0);
        Check.due("no time passes", x.pass(1), 1);
        Check.due("the next tick", x.tick(), 1);
        Check.due("at its time", x.lastChange(2), 1);
    }

    private static void reset() {
        Deltacycle x = new Deltacycle();
        x.addInput();
        x.addRegister();
        x.addGate('=', 1, 0, 0);
        x.addBus();
        Check.due("reset", x.reset(1, '1'), 'x');
        Check.due("at once", x.value(2), '1');
        Check.due("reset", x.reset(1, '0'), '1');
        Check.due("reset to the same", x.reset(1, '0'), '0');
        Check.due("changes", x.changes(1), 2);
        Check.dueThrow("an input", INDEX, () -> x.reset(0, '0'));
        Check.dueThrow("a gate", INDEX, () -> x.reset(2, '0'));
        Check.dueThrow("a bus", INDEX, () -> x.reset(3, 'x'));
        Check.dueThrow("no such net", INDEX, () -> x.reset(4, '0'));
        for (char value : new char[] {'x', 'z', '2', 0, '/'}) {
            Check.dueThrow("value " + (int) value, ARGUMENT, () -> x.reset(1, value));
        }
    }

    private static void pass() {
        Deltacycle x = new Deltacycle();
        Check.dueThrow("pass(0)", ARGUMENT, () -> x.pass(0));
        Check.dueThrow("pass(-1)", ARGUMENT, () -> x.pass(-1));
        Check.dueThrow("pass(101)", ARGUMENT, () -> x.pass(101));
        Check.dueThrow("pass of very many", ARGUMENT, () -> x.pass(Integer.MAX_VALUE));
        x.addInput();
        x.addGate('=', 0, 0, 9);
        for (int i = 1; i < 100; i++) {
            Check.due("pass(100)", x.pass(100), 100 * i);
        }
        x.setInput(0, '1');
        Check.dueThrow("pass(100) to 10000", IllegalStateException.class, () -> x.pass(100));
        Check.dueThrow("pass(101) late", ARGUMENT, () -> x.pass(101));
        Check.due("nothing came by that", x.pending(), 1);
        Check.due("pass(99) to 9999", x.pass(99), 9999);
        Check.due("it came", x.lastChange(1), 9909);
        Check.dueThrow("pass(1) to 10000", IllegalStateException.class, () -> x.pass(1));
        x.setInput(0, '0');
        Check.due("a change at the last time", x.lastChange(0), 9999);
        Check.due("what never comes is to come", x.pending(), 1);
    }

    private static void value() {
        Deltacycle x = new Deltacycle();
        x.addInput();
        x.addGate('~', 0, 0, 1);
        x.addBus();
        Check.due("an input", x.value(0), 'x');
        Check.due("a gate", x.value(1), 'x');
        Check.due("a bus", x.value(2), 'z');
        x.setInput(0, '0');
        Check.due("not yet", x.value(1), 'x');
        x.pass(1);
        Check.due("now", x.value(1), '1');
        Check.dueThrow("value(3)", INDEX, () -> x.value(3));
        Check.dueThrow("value(-1)", INDEX, () -> x.value(-1));
        Check.dueThrow("value of the least", INDEX, () -> x.value(Integer.MIN_VALUE));
    }

    private static void changes() {
        Deltacycle x = new Deltacycle();
        x.addInput();
        x.addInput();
        x.addBus();
        x.addOpen(2, 0, 1, 0);
        x.addOpen(2, 0, 1, 3);
        Check.due("none yet", x.changes(2), 0);
        x.setInput(1, '1');
        x.setInput(0, '1');
        Check.due("the slow one gives 'x'", x.changes(2), 0);
        x.pass(3);
        Check.due("both give '1'", x.value(2), '1');
        Check.due("one change", x.changes(2), 1);
        x.setInput(1, '0');
        Check.due("the quick one gives 'z', the bus stays", x.changes(2), 1);
        Check.due("the bus stays", x.value(2), '1');
        x.pass(3);
        Check.due("both give 'z'", x.value(2), 'z');
        Check.due("second change", x.changes(2), 2);
        Check.dueThrow("changes(3)", INDEX, () -> x.changes(3));
        Check.dueThrow("changes(-1)", INDEX, () -> x.changes(-1));
    }

    private static void lastChange() {
        Deltacycle x = new Deltacycle();
        x.addInput();
        x.addGate('=', 0, 0, 4);
        Check.dueThrow("not changed", NoSuchElementException.class, () -> x.lastChange(0));
        Check.dueThrow("lastChange(2)", INDEX, () -> x.lastChange(2));
        Check.dueThrow("lastChange(-1)", INDEX, () -> x.lastChange(-1));
        x.setInput(0, 'x');
        Check.dueThrow("set to the same", NoSuchElementException.class, () -> x.lastChange(0));
        x.setInput(0, '1');
        Check.due("at 0", x.lastChange(0), 0);
        x.pass(10);
        Check.due("still at 0", x.lastChange(0), 0);
        Check.due("at 4", x.lastChange(1), 4);
        x.setInput(0, '0');
        Check.due("at 10", x.lastChange(0), 10);
        x.pass(4);
        Check.due("at 14", x.lastChange(1), 14);
    }

    private static void pending() {
        Deltacycle x = new Deltacycle();
        x.addInput();
        x.addInput();
        x.addBus();
        x.addOpen(2, 0, 1, 1);
        x.addOpen(2, 0, 1, 2);
        x.addGate('~', 0, 0, 3);
        x.addGate('=', 2, 0, 0);
        x.setInput(0, '1');
        Check.due("the gate alone", x.pending(), 1);
        x.setInput(1, '1');
        Check.due("and both open gates", x.pending(), 3);
        x.pass(1);
        Check.due("one came", x.pending(), 2);
        x.pass(1);
        Check.due("and one more, the gate behind it at once", x.pending(), 1);
        Check.due("the gate behind it", x.value(4), '1');
        x.pass(1);
        Check.due("none", x.pending(), 0);
    }

    private static void givesWhatItGaveLast() {
        Deltacycle x = new Deltacycle();
        x.addInput();
        x.addGate('=', 0, 0, 3);
        x.setInput(0, '0');
        x.pass(3);
        x.setInput(0, '1');
        x.pass(2);
        Check.due("to come", x.pending(), 1);
        x.setInput(0, '0');
        Check.due("not any more", x.pending(), 0);
        x.pass(9);
        Check.due("no change", x.changes(1), 1);
    }

    private static void givesAThirdValue() {
        Deltacycle x = new Deltacycle();
        x.addInput();
        x.addGate('=', 0, 0, 3);
        x.setInput(0, '0');
        x.pass(2);
        x.setInput(0, '1');
        Check.due("one alone is to come", x.pending(), 1);
        x.pass(1);
        Check.due("the first does not come", x.value(1), 'x');
        x.pass(1);
        Check.due("not yet", x.value(1), 'x');
        x.pass(1);
        Check.due("the third value", x.value(1), '1');
        Check.due("at 2 + 3", x.lastChange(1), 5);
        Check.due("one change", x.changes(1), 1);
    }

    private static void givesTheSame() {
        Deltacycle x = new Deltacycle();
        x.addInput();
        x.addInput();
        x.addGate('|', 0, 1, 5);
        x.setInput(0, '1');
        x.pass(3);
        x.setInput(1, '1');
        Check.due("to come still", x.pending(), 1);
        x.pass(2);
        Check.due("at its first time", x.lastChange(2), 5);
        x.setInput(0, '0');
        Check.due("nothing other", x.pending(), 0);
    }

    private static void changesOfOneStepComeTogether() {
        Deltacycle x = new Deltacycle();
        x.addInput();
        x.addGate('=', 0, 0, 2);
        x.addGate('~', 0, 0, 2);
        x.addGate('&', 1, 2, 0);
        x.setInput(0, '0');
        x.pass(2);
        Check.due("settled", x.value(3), '0');
        int before = x.changes(3);
        x.setInput(0, '1');
        x.pass(2);
        Check.due("both change at once: no glitch", x.changes(3), before);
        Check.due("still", x.value(3), '0');
    }

    private static void glitchWithoutDelay() {
        Deltacycle x = new Deltacycle();
        x.addInput();
        x.addGate('~', 0, 0, 0);
        x.addGate('&', 0, 1, 0);
        x.setInput(0, '0');
        Check.due("from 'x' to '0'", x.changes(2), 1);
        x.setInput(0, '1');
        Check.due("one behind the other: up and down", x.changes(2), 3);
        Check.due("in the end", x.value(2), '0');
        x.setInput(0, '0');
        Check.due("no glitch the other way", x.changes(2), 3);
        Check.due("in the same step", x.lastChange(2), 0);
    }

    private static void whatIsToComeComesFirst() {
        Deltacycle x = new Deltacycle();
        x.addInput();
        x.addGate('=', 0, 0, 1);
        x.addGate('=', 1, 0, 0);
        x.addRegister();
        x.connect(3, 2);
        x.setInput(0, '1');
        Check.due("too early", x.tick(), 0);
        x.pass(1);
        Check.due("the chain came with the step", x.value(2), '1');
        Check.due("before the tick", x.tick(), 1);
    }

    private static void settled() {
        Deltacycle x = new Deltacycle();
        x.addInput();
        x.addRegister();
        x.addGate('^', 0, 1, 9);
        x.addBus();
        x.addOpen(3, 2, 0, 9);
        x.addGate('~', 3, 0, 9);
        x.setInput(0, '1');
        x.reset(1, '0');
        Check.due("value", x.value(5 - 1), 'x');
        Check.due("settled gate", x.settled(2), '1');
        Check.due("settled bus", x.settled(3), '1');
        Check.due("settled behind the bus", x.settled(4), '0');
        x.setInput(0, '0');
        Check.due("settled bus", x.settled(3), 'z');
        Check.due("settled behind the bus", x.settled(4), 'x');
        x.setInput(0, 'z');
        Check.due("settled input", x.settled(0), 'z');
        Check.due("settled register", x.settled(1), '0');
        Check.due("nothing is changed by it", x.changes(2), 0);
        Check.dueThrow("settled(5)", INDEX, () -> x.settled(5));
        Check.dueThrow("settled(-1)", INDEX, () -> x.settled(-1));
    }
}
