/** Promises 26 to 29. */
final class FiguresTest {
    public static void main(String[] args) {
        activity();
        knownShare();
        meanArrival();
        isSound();
        Check.end();
    }

    private static void activity() {
        Deltacycle x = new Deltacycle();
        Check.due("without nets", x.activity(), 0L);
        x.addInput();
        x.addRegister();
        x.addGate('&', 0, 0, 0);
        x.addGate('~', 0, 1, 0);
        x.addBus();
        x.addOpen(4, 1, 1, 0);
        x.addOpen(4, 0, 1, 5);
        x.connect(1, 0);
        Check.due("before all changes", x.activity(), 0L);
        x.setInput(0, '1');
        Check.due("the input and both gates", x.activity(), 1L * 4 + 1 + 1);
        x.reset(1, '0');
        Check.due("the register, which two open gates read", x.activity(), 6L + 3);
        x.pass(5);
        Check.due("the bus changes once the slow one gave 'z'", x.activity(), 9L + 1);
        x.setInput(0, '0');
        x.setInput(0, '1');
        Check.due("each change counts", x.activity(), 10L + 2 * 4 + 2 + 2);
    }

    private static void knownShare() {
        Deltacycle x = new Deltacycle();
        Check.dueThrow("without nets", ArithmeticException.class, x::knownShare);
        x.addInput();
        x.addInput();
        x.addInput();
        Check.due("none", x.knownShare(), 0f);
        x.setInput(0, '1');
        x.setInput(1, 'z');
        Check.due("one of three", x.knownShare(), 1f / 3f);
        x.setInput(1, '0');
        Check.due("two of three", x.knownShare(), 2f / 3f);
        x.setInput(2, '0');
        Check.due("all", x.knownShare(), 1f);
        x.addBus();
        Check.due("after building", x.knownShare(), 0f);
    }

    private static void meanArrival() {
        Deltacycle x = new Deltacycle();
        Check.dueThrow("without nets", ArithmeticException.class, x::meanArrival);
        x.addInput();
        Check.due("an input", x.meanArrival(), 0.0);
        x.addGate('~', 0, 0, 1);
        x.addGate('~', 1, 0, 3);
        Check.due("0, 1, 4", x.meanArrival(), 5.0 / 3.0);
        x.addBus();
        Check.due("0, 1, 4, 0", x.meanArrival(), 1.25);
    }

    private static void isSound() {
        Deltacycle x = new Deltacycle();
        Check.due("without nets", x.isSound(), true);
        x.addInput();
        x.addGate('=', 0, 0, 2);
        x.addGate('~', 1, 0, 2);
        x.addGate('~', 2, 0, 2);
        Check.due("at rest", x.isSound(), true);
        x.setInput(0, '1');
        Check.due("with something to come", x.isSound(), true);
        x.pass(3);
        Check.due("with something to come", x.isSound(), true);
        x.pass(3);
        Check.due("at rest again", x.isSound(), true);
        x.setInput(0, 'z');
        x.pass(9);
        Check.due("with 'z' at an input", x.isSound(), true);
        Check.due("nothing is changed by it", x.value(0), 'z');
    }
}
