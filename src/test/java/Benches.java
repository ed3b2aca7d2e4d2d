/** Benches that several tests begin with, and calls that they make often. */
final class Benches {
    static final String VALUES = "01xz";
    static final String KINDS = "~=&|^";
    static final int MOST_NETS = 40;
    static final int MOST_SOURCES = 8;

    private Benches() {
    }

    static Deltacycle ofInputs(int count) {
        Deltacycle x = new Deltacycle();
        for (int i = 0; i < count; i++) {
            x.addInput();
        }
        return x;
    }

    /** Sets the inputs from net 0 on. */
    static void set(Deltacycle x, String values) {
        for (int i = 0; i < values.length(); i++) {
            x.setInput(i, values.charAt(i));
        }
    }

    static Deltacycle withBuses(Deltacycle x, int count) {
        for (int i = 0; i < count; i++) {
            x.addBus();
        }
        return x;
    }

    /** Net 0 is an input, and each other net up to 39 is a gate that reads the one before it. */
    static Deltacycle chain(char kind, int delay) {
        Deltacycle x = ofInputs(1);
        for (int net = 0; net < MOST_NETS - 1; net++) {
            x.addGate(kind, net, net, delay);
        }
        return x;
    }
}
