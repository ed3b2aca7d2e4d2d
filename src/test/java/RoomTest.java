import java.lang.management.ManagementFactory;

/**
 * All calls of a run live in one room of some 600,000 objects and arrays with 7.3 million fields and elements in
 * all: the greatest bench and its dearest calls must stay far below it, also where many such runs share the room.
 */
final class RoomTest {
    private static final int MOST_CALLS = 512;

    /** An object takes at least 16 bytes, so this is at most 32,768 of them; most of it is left to the machine. */
    private static final long MOST_BYTES_OF_RUN = 1 << 19;

    /** What asks, or lets time pass, makes nothing at all; a little is left to the machine, too. */
    private static final long MOST_BYTES_OF_ASKING = 1 << 14;

    public static void main(String[] args) {
        if (!(ManagementFactory.getThreadMXBean() instanceof com.sun.management.ThreadMXBean)) {
            System.out.println("this machine does not tell how much was made: left out");
            return;
        }
        com.sun.management.ThreadMXBean machine = (com.sun.management.ThreadMXBean) ManagementFactory.getThreadMXBean();
        // The run that is measured is the first one, since later the machine may leave out what it sees is not used.
        long before = machine.getCurrentThreadAllocatedBytes();
        long asking = run(machine);
        long all = machine.getCurrentThreadAllocatedBytes() - before;
        System.out.println("a run took " + all + " bytes, its asking " + asking);
        Check.due("a run stays below " + MOST_BYTES_OF_RUN, all < MOST_BYTES_OF_RUN, true);
        Check.due("its asking stays below " + MOST_BYTES_OF_ASKING, asking < MOST_BYTES_OF_ASKING, true);
        Check.end();
    }

    /** Builds the greatest bench and asks all the rest of the calls; tells how many bytes the asking took. */
    private static long run(com.sun.management.ThreadMXBean machine) {
        Deltacycle x = new Deltacycle();
        int calls = build(x);
        long before = machine.getCurrentThreadAllocatedBytes();
        for (; calls < MOST_CALLS; calls++) {
            ask(x, calls);
        }
        return machine.getCurrentThreadAllocatedBytes() - before;
    }

    private static int build(Deltacycle x) {
        for (int source = 0; source < Benches.MOST_SOURCES; source++) {
            x.addRegister();
        }
        int calls = Benches.MOST_SOURCES;
        for (int net = Benches.MOST_SOURCES; net < Benches.MOST_NETS; net++) {
            x.addBus();
            calls++;
            for (int open = 0; open < 4; open++) {
                x.addOpen(net, net - 1 - open, net - 5, open);
                calls++;
            }
        }
        for (int test = 0; test < 8; test++) {
            x.mark(Benches.MOST_NETS - 1 - test, true);
            x.connect(test, Benches.MOST_NETS - 1 - test);
            x.addTest(test);
            calls += 3;
        }
        for (int source = 0; source < Benches.MOST_SOURCES; source++) {
            x.reset(source, '1');
            calls++;
        }
        return calls;
    }

    private static void ask(Deltacycle x, int call) {
        int net = call % Benches.MOST_NETS;
        switch (call % 9) {
            case 0 -> x.shown();
            case 1 -> x.isSound();
            case 2 -> x.pass(100);
            case 3 -> x.tick();
            case 4 -> x.differs(net, net);
            case 5 -> x.shows(net, '0', call % 256);
            case 6 -> x.reset(call % Benches.MOST_SOURCES, '0');
            case 7 -> x.settled(net);
            default -> x.activity();
        }
    }
}
