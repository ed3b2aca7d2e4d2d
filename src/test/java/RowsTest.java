import java.util.NoSuchElementException;

/** Promises 22 to 25. */
final class RowsTest {
    private static final Class<IllegalArgumentException> ARGUMENT = IllegalArgumentException.class;
    private static final Class<IndexOutOfBoundsException> INDEX = IndexOutOfBoundsException.class;
    private static final Class<NoSuchElementException> NONE = NoSuchElementException.class;

    public static void main(String[] args) {
        shows();
        showsOnlyWhereWatched();
        showsOnlyKnownValues();
        showsWithBuses();
        showsRefuses();
        findTest();
        addTest();
        shown();
        Check.end();
    }

    /** Nets 0 and 1 are inputs, 2 is their '&', 3 its '~', marked. */
    private static Deltacycle nand() {
        Deltacycle x = new Deltacycle();
        x.addInput();
        x.addInput();
        x.addGate('&', 0, 1, 4);
        x.addGate('~', 2, 0, 4);
        x.mark(3, true);
        return x;
    }

    private static void shows() {
        Deltacycle x = nand();
        boolean[] firstAt0 = {false, false, false, true};
        boolean[] firstAt1 = {false, false, true, false};
        boolean[] secondAt1 = {false, true, false, false};
        boolean[] gateAt1 = {true, true, true, false};
        for (int row = 0; row < 4; row++) {
            Check.due("input 0 at '0' by " + row, x.shows(0, '0', row), firstAt0[row]);
            Check.due("input 0 at '1' by " + row, x.shows(0, '1', row), firstAt1[row]);
            Check.due("input 1 at '1' by " + row, x.shows(1, '1', row), secondAt1[row]);
            Check.due("gate 2 at '1' by " + row, x.shows(2, '1', row), gateAt1[row]);
            Check.due("gate 3 at '0' by " + row, x.shows(3, '0', row), gateAt1[row]);
            Check.due("gate 3 at '1' by " + row, x.shows(3, '1', row), !gateAt1[row]);
        }
        x.setInput(0, '1');
        Check.due("what is set is of no meaning", x.shows(0, '1', 2), true);
        Check.due("nothing is changed by it", x.value(0), '1');
    }

    private static void showsOnlyWhereWatched() {
        Deltacycle x = nand();
        x.mark(3, false);
        Check.due("not marked any more", x.shows(3, '0', 0), false);
        x.mark(2, true);
        Check.due("not seen at what it reads", x.shows(3, '0', 0), false);
        Check.due("seen where it is", x.shows(2, '1', 0), true);
        x.mark(2, false);
        x.addRegister();
        x.connect(4, 3);
        Check.due("seen by a register", x.shows(2, '1', 0), true);
        x.connect(4, 4);
        Check.due("not any more", x.shows(2, '1', 0), false);
        Check.due("a register that takes itself", x.shows(4, '1', 0), true);
        Check.due("its bit", x.shows(4, '0', 4), true);
    }

    private static void showsOnlyKnownValues() {
        Deltacycle x = new Deltacycle();
        x.addInput();
        x.addBus();
        x.addOpen(1, 0, 0, 0);
        x.addGate('&', 0, 1, 0);
        x.mark(1, true);
        x.mark(2, true);
        Check.due("the bus has 'z' without it", x.shows(1, '1', 0), false);
        Check.due("the bus has '1' without it", x.shows(1, '0', 1), true);
        Check.due("the bus at '1' with row 1", x.shows(1, '1', 1), false);
        x.mark(2, false);
        Check.due("the bus has 'z' with the input stuck", x.shows(0, '0', 1), false);
        x.mark(0, true);
        Check.due("seen at the input", x.shows(0, '0', 1), true);
    }

    private static void showsWithBuses() {
        Deltacycle x = new Deltacycle();
        x.addInput();
        x.addInput();
        x.addInput();
        x.addBus();
        x.addGate('~', 2, 0, 0);
        x.addOpen(3, 0, 2, 0);
        x.addOpen(3, 1, 4, 0);
        x.addGate('=', 3, 0, 0);
        x.mark(5, true);
        Check.due("chosen", x.shows(0, '1', 4), true);
        Check.due("not chosen", x.shows(1, '1', 4), false);
        Check.due("the other one chosen", x.shows(1, '1', 0), true);
        Check.due("the one that chooses, with both alike", x.shows(2, '0', 4), false);
        Check.due("the one that chooses", x.shows(2, '0', 5), true);
        Check.due("the '~' of it gives 'x' or 'z' alone", x.shows(4, '0', 1), false);
        Check.due("two open at once, unlike", x.shows(4, '1', 5), false);
    }

    private static void showsRefuses() {
        Deltacycle x = nand();
        Check.dueThrow("no such net", INDEX, () -> x.shows(4, 'x', 9));
        Check.dueThrow("no such net", INDEX, () -> x.shows(-1, '0', 0));
        Check.dueThrow("'x'", ARGUMENT, () -> x.shows(0, 'x', 9));
        Check.dueThrow("'z'", ARGUMENT, () -> x.shows(0, 'z', 0));
        Check.dueThrow("number 0", ARGUMENT, () -> x.shows(0, (char) 0, 0));
        Check.dueThrow("row 4", NONE, () -> x.shows(0, '0', 4));
        Check.dueThrow("row -1", NONE, () -> x.shows(0, '0', -1));
    }

    private static void findTest() {
        Deltacycle x = nand();
        Check.due("input 0 at '0'", x.findTest(0, '0'), 3);
        Check.due("input 0 at '1'", x.findTest(0, '1'), 2);
        Check.due("input 1 at '1'", x.findTest(1, '1'), 1);
        Check.due("gate 2 at '1'", x.findTest(2, '1'), 0);
        x.addGate('^', 0, 0, 0);
        x.mark(4, true);
        Check.dueThrow("it always has '0'", NONE, () -> x.findTest(4, '0'));
        Check.due("it never has '1'", x.findTest(4, '1'), 0);
        Check.dueThrow("no such net", INDEX, () -> x.findTest(5, 'x'));
        Check.dueThrow("no such net", INDEX, () -> x.findTest(-1, '0'));
        Check.dueThrow("'x'", ARGUMENT, () -> x.findTest(4, 'x'));
        Check.dueThrow("'2'", ARGUMENT, () -> x.findTest(0, '2'));
        Deltacycle all = new Deltacycle();
        for (int i = 0; i < 8; i++) {
            all.addInput();
        }
        int chain = 0;
        for (int i = 1; i < 8; i++) {
            chain = all.addGate('&', chain, i, 0);
        }
        all.mark(chain, true);
        Check.due("the last row of all", all.findTest(0, '0'), 255);
        Check.due("all but one bit", all.findTest(7, '1'), 127);
    }

    private static void addTest() {
        Deltacycle x = nand();
        Check.dueThrow("row 4", NONE, () -> x.addTest(4));
        Check.dueThrow("row -1", NONE, () -> x.addTest(-1));
        for (int i = 1; i <= 8; i++) {
            Check.due("addTest", x.addTest(i % 4), i);
        }
        Check.dueThrow("no such row at 8 tests", NONE, () -> x.addTest(4));
        Check.dueThrow("the 9th test", IllegalStateException.class, () -> x.addTest(0));
    }

    private static void shown() {
        Deltacycle x = nand();
        Check.due("without tests", x.shown(), 0);
        x.addTest(3);
        Check.due("by row 3: all four of one value", x.shown(), 4);
        x.addTest(3);
        Check.due("the same test again", x.shown(), 4);
        x.addTest(1);
        Check.due("by row 1: input 1, gate 2, gate 3", x.shown(), 7);
        x.addTest(2);
        Check.due("by row 2: input 0 alone is new", x.shown(), 8);
        x.mark(3, false);
        Check.due("nothing is watched", x.shown(), 0);
    }
}
