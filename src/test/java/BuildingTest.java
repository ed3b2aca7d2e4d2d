import java.util.NoSuchElementException;

/** Promises 1 to 8. */
final class BuildingTest {
    private static final Class<IllegalArgumentException> ARGUMENT = IllegalArgumentException.class;
    private static final Class<IndexOutOfBoundsException> INDEX = IndexOutOfBoundsException.class;
    private static final Class<UnsupportedOperationException> UNSUPPORTED = UnsupportedOperationException.class;
    private static final Class<IllegalStateException> STATE = IllegalStateException.class;

    public static void main(String[] args) {
        newObject();
        addInput();
        addGate();
        addGateRefuses();
        addBus();
        addOpen();
        addOpenRefuses();
        addRegister();
        connect();
        mark();
        buildingStartsAnew();
        buildingKeepsMarksAndTests();
        Check.end();
    }

    private static void newObject() {
        Deltacycle x = new Deltacycle();
        Check.dueThrow("value(0) of a new object", INDEX, () -> x.value(0));
        Check.due("pending() of a new object", x.pending(), 0);
        Check.due("pass(1) of a new object", x.pass(1), 1);
        Check.due("tick() of a new object", x.tick(), 0);
        Check.due("shown() of a new object", x.shown(), 0);
        Check.due("addTest(0) of a new object", x.addTest(0), 1);
        Check.due("isSound() of a new object", x.isSound(), true);
    }

    private static void addInput() {
        Deltacycle x = new Deltacycle();
        for (int i = 0; i < 8; i++) {
            Check.due("addInput()", x.addInput(), i);
        }
        Check.due("value(7)", x.value(7), 'x');
        Check.dueThrow("the 9th addInput()", UNSUPPORTED, x::addInput);
        Check.dueThrow("a register behind 8 inputs", UNSUPPORTED, x::addRegister);
        fillWithBuses(x);
        Check.dueThrow("addInput() with 8 and 40", UNSUPPORTED, x::addInput);
        Deltacycle y = new Deltacycle();
        y.addInput();
        fillWithBuses(y);
        Check.dueThrow("addInput() with 40 nets", STATE, y::addInput);
        Check.dueThrow("addRegister() with 40 nets", STATE, y::addRegister);
    }

    private static void addGate() {
        String kinds = "~=&|^";
        String values = "01xz";
        String[] gives = {
            "1111" + "0000" + "xxxx" + "xxxx",
            "0000" + "1111" + "xxxx" + "xxxx",
            "0000" + "01xx" + "0xxx" + "0xxx",
            "01xx" + "1111" + "x1xx" + "x1xx",
            "01xx" + "10xx" + "xxxx" + "xxxx",
        };
        for (int kind = 0; kind < kinds.length(); kind++) {
            Deltacycle x = new Deltacycle();
            x.addInput();
            x.addInput();
            Check.due("addGate", x.addGate(kinds.charAt(kind), 0, 1, 0), 2);
            for (int i = 0; i < 16; i++) {
                x.setInput(0, values.charAt(i / 4));
                x.setInput(1, values.charAt(i % 4));
                String call = kinds.charAt(kind) + " of " + values.charAt(i / 4) + values.charAt(i % 4);
                Check.due(call, x.value(2), gives[kind].charAt(i));
                Check.due(call + " settled", x.settled(2), gives[kind].charAt(i));
            }
        }
    }

    private static void addGateRefuses() {
        Deltacycle x = new Deltacycle();
        x.addInput();
        for (char kind : new char[] {'o', '>', 'x', '0', ' ', 0, 255, '!', '-'}) {
            Check.dueThrow("kind " + (int) kind, ARGUMENT, () -> x.addGate(kind, 0, 0, 0));
        }
        Check.dueThrow("delay -1", ARGUMENT, () -> x.addGate('&', 0, 0, -1));
        Check.dueThrow("delay 10", ARGUMENT, () -> x.addGate('&', 5, 5, 10));
        Check.dueThrow("first -1", INDEX, () -> x.addGate('~', -1, 0, 0));
        Check.dueThrow("first 1", INDEX, () -> x.addGate('=', 1, 0, 0));
        Check.dueThrow("second 1", INDEX, () -> x.addGate('^', 0, 1, 0));
        Check.dueThrow("second -1", INDEX, () -> x.addGate('|', 0, Integer.MIN_VALUE, 0));
        Check.due("second of no meaning", x.addGate('~', 0, -7, 9), 1);
        Check.due("second of no meaning", x.addGate('=', 0, Integer.MAX_VALUE, 0), 2);
        fillWithBuses(x);
        Check.dueThrow("kind with 40 nets", ARGUMENT, () -> x.addGate('o', 0, 0, 0));
        Check.dueThrow("net with 40 nets", INDEX, () -> x.addGate('&', 0, 40, 0));
        Check.dueThrow("addGate with 40 nets", STATE, () -> x.addGate('&', 0, 39, 0));
    }

    private static void addBus() {
        Deltacycle x = new Deltacycle();
        for (int i = 0; i < 40; i++) {
            Check.due("addBus()", x.addBus(), i);
        }
        Check.due("a bus without open gates", x.value(39), 'z');
        Check.due("it settles", x.settled(39), 'z');
        Check.dueThrow("the 41st addBus()", STATE, x::addBus);
        Check.dueThrow("value(40)", INDEX, () -> x.value(40));
    }

    private static void addOpen() {
        String values = "01xz";
        String gives = "z0xx" + "z1xx" + "zxxx" + "zxxx";
        Deltacycle x = new Deltacycle();
        x.addInput();
        x.addInput();
        x.addBus();
        Check.due("addOpen", x.addOpen(2, 0, 1, 0), 1);
        for (int i = 0; i < 16; i++) {
            x.setInput(0, values.charAt(i / 4));
            x.setInput(1, values.charAt(i % 4));
            Check.due("open gate with " + values.charAt(i / 4) + values.charAt(i % 4), x.value(2), gives.charAt(i));
        }
        busOfThree();
    }

    private static void busOfThree() {
        Deltacycle x = new Deltacycle();
        for (int i = 0; i < 6; i++) {
            x.addInput();
        }
        x.addBus();
        Check.due("1st", x.addOpen(6, 0, 3, 0), 1);
        Check.due("2nd", x.addOpen(6, 1, 4, 0), 2);
        Check.due("3rd", x.addOpen(6, 2, 5, 0), 3);
        String[] cases = {
            "000000z", "0101000", "101110x", "011101x", "0110111", "1111111", "0001110", "xzx000z",
            "x01100x", "1x11011", "1x1111x", "z00100x", "0000x0x", "0000z0x", "0110101", "11111xx",
        };
        for (String one : cases) {
            for (int i = 0; i < 6; i++) {
                x.setInput(i, one.charAt(i));
            }
            Check.due("bus with " + one.substring(0, 6), x.value(6), one.charAt(6));
            Check.due("bus settled with " + one.substring(0, 6), x.settled(6), one.charAt(6));
        }
    }

    private static void addOpenRefuses() {
        Deltacycle x = new Deltacycle();
        x.addInput();
        x.addRegister();
        x.addBus();
        x.addBus();
        Check.dueThrow("delay 10", ARGUMENT, () -> x.addOpen(9, 9, 9, 10));
        Check.dueThrow("delay -1", ARGUMENT, () -> x.addOpen(2, 0, 0, -1));
        Check.dueThrow("no such bus", INDEX, () -> x.addOpen(4, 0, 0, 0));
        Check.dueThrow("an input is no bus", INDEX, () -> x.addOpen(0, 0, 0, 0));
        Check.dueThrow("a register is no bus", INDEX, () -> x.addOpen(1, 0, 0, 0));
        Check.dueThrow("no such net", INDEX, () -> x.addOpen(2, 4, 0, 0));
        Check.dueThrow("no such opener", INDEX, () -> x.addOpen(2, 2, -1, 0));
        Check.dueThrow("a ring of one", UNSUPPORTED, () -> x.addOpen(2, 2, 0, 0));
        Check.dueThrow("a ring of one by the opener", UNSUPPORTED, () -> x.addOpen(2, 0, 2, 0));
        x.addGate('=', 2, 0, 0);
        Check.dueThrow("a gate is no bus", INDEX, () -> x.addOpen(4, 0, 0, 0));
        Check.due("the second bus reads the gate of the first", x.addOpen(3, 4, 0, 0), 1);
        Check.dueThrow("a ring over both buses", UNSUPPORTED, () -> x.addOpen(2, 0, 3, 0));
        x.addGate('^', 0, 4, 0);
        Check.dueThrow("a ring by a gate's second net", UNSUPPORTED, () -> x.addOpen(2, 0, 5, 0));
        x.addBus();
        x.addOpen(6, 0, 3, 0);
        Check.dueThrow("a ring by an opener", UNSUPPORTED, () -> x.addOpen(2, 6, 0, 0));
        x.connect(1, 3);
        Check.due("a register parts a ring", x.addOpen(2, 1, 0, 0), 1);
        x.addOpen(2, 0, 0, 0);
        x.addOpen(2, 0, 0, 0);
        Check.due("the 4th", x.addOpen(2, 0, 1, 9), 4);
        Check.dueThrow("the 5th", STATE, () -> x.addOpen(2, 0, 0, 0));
        Check.dueThrow("a ring at a full bus", UNSUPPORTED, () -> x.addOpen(2, 3, 0, 0));
        Check.due("the other bus", x.addOpen(3, 0, 0, 0), 2);
    }

    private static void addRegister() {
        Deltacycle x = new Deltacycle();
        for (int i = 0; i < 8; i++) {
            Check.due("addRegister()", x.addRegister(), i);
        }
        Check.due("it takes no net", x.connect(3, 4), -1);
        Check.dueThrow("the 9th addRegister()", UNSUPPORTED, x::addRegister);
        Check.dueThrow("an input behind 8 registers", UNSUPPORTED, x::addInput);
        Check.due("a bus still", x.addBus(), 8);
        fillWithBuses(x);
        Check.dueThrow("addRegister() with 8 and 40", UNSUPPORTED, x::addRegister);
    }

    private static void connect() {
        Deltacycle x = new Deltacycle();
        x.addInput();
        x.addRegister();
        x.addBus();
        Check.dueThrow("no register", INDEX, () -> x.connect(0, 0));
        Check.dueThrow("a bus is no register", INDEX, () -> x.connect(2, 0));
        Check.dueThrow("no such register", INDEX, () -> x.connect(-1, 0));
        Check.dueThrow("no such net", INDEX, () -> x.connect(1, 3));
        Check.due("connect(1, 0)", x.connect(1, 0), -1);
        Check.due("connect(1, 2)", x.connect(1, 2), 0);
        Check.due("connect(1, 1)", x.connect(1, 1), 2);
        Check.due("connect(1, 1)", x.connect(1, 1), 1);
        Check.dueThrow("no such net", INDEX, () -> x.connect(1, -1));
        Check.due("nothing changed by that", x.connect(1, 0), 1);
    }

    private static void mark() {
        Deltacycle x = new Deltacycle();
        x.addInput();
        x.addGate('~', 0, 0, 3);
        x.setInput(0, '1');
        x.pass(2);
        Check.due("mark", x.mark(1, true), false);
        Check.due("mark again", x.mark(1, true), true);
        Check.due("unmark", x.mark(1, false), true);
        Check.due("unmark again", x.mark(1, false), false);
        Check.dueThrow("mark(2)", INDEX, () -> x.mark(2, true));
        Check.dueThrow("mark(-1)", INDEX, () -> x.mark(-1, false));
        Check.due("mark builds nothing", x.pending(), 1);
        Check.due("mark builds nothing", x.value(0), '1');
        Check.due("mark builds nothing", x.pass(1), 3);
        Check.due("mark builds nothing", x.value(1), '0');
    }

    private static void buildingStartsAnew() {
        for (int way = 0; way < 7; way++) {
            Deltacycle x = new Deltacycle();
            x.addInput();
            x.addRegister();
            x.addGate('~', 0, 0, 2);
            x.addBus();
            x.addGate('|', 0, 3, 0);
            x.connect(1, 3);
            x.reset(1, '1');
            x.setInput(0, '1');
            x.pass(1);
            Check.due("before building", x.pending(), 1);
            build(x, way);
            Check.due("pending after building " + way, x.pending(), 0);
            Check.due("an input after building " + way, x.value(0), 'x');
            Check.due("a register after building " + way, x.value(1), 'x');
            Check.due("a gate after building " + way, x.value(4), 'x');
            Check.due("changes after building " + way, x.changes(0) + x.changes(1) + x.changes(4), 0);
            Check.dueThrow("lastChange after building " + way, NoSuchElementException.class, () -> x.lastChange(0));
            Check.due("time after building " + way, x.pass(5), 5);
            Check.due("nothing comes after building " + way, x.value(2), 'x');
            Check.due("activity after building " + way, x.activity(), 0L);
        }
    }

    private static void build(Deltacycle x, int way) {
        switch (way) {
            case 0 -> x.addInput();
            case 1 -> x.addRegister();
            case 2 -> x.addBus();
            case 3 -> x.addGate('=', 0, 0, 0);
            case 4 -> x.addOpen(3, 0, 1, 3);
            case 5 -> x.connect(1, 4);
            default -> Check.due("connected as before", x.connect(1, 3), 3);
        }
    }

    private static void buildingKeepsMarksAndTests() {
        Deltacycle x = new Deltacycle();
        x.addInput();
        x.mark(0, true);
        x.addTest(1);
        Check.due("shown before", x.shown(), 1);
        x.addInput();
        x.addTest(2);
        Check.due("shown after", x.shown(), 2);
        Check.due("the mark is kept", x.mark(0, true), true);
        Check.due("the tests are kept", x.addTest(3), 3);
    }

    private static void fillWithBuses(Deltacycle x) {
        for (int i = 0; i < 40; i++) {
            try {
                x.addBus();
            } catch (IllegalStateException e) {
                return;
            }
        }
    }
}
