/** The example of README.md: a bit that turns at each tick, a bus, and the rows that try them. */
public final class Example {
    public static void main(String[] args) {
        Deltacycle bench = new Deltacycle();
        int on = bench.addInput();                      // net 0
        int bit = bench.addRegister();                  // net 1
        int turned = bench.addGate('^', on, bit, 2);    // net 2: kind, the nets that it reads, its delay
        int bus = bench.addBus();                       // net 3
        bench.addOpen(bus, turned, on, 3);              // the bus, what is read, what opens it, its delay
        bench.connect(bit, turned);                     // what the register takes at a tick

        bench.reset(bit, '0');
        bench.setInput(on, '1');
        System.out.println("turned is " + bench.value(turned) + " and settles to " + bench.settled(turned));
        System.out.println("at time " + bench.pass(2) + " it is " + bench.value(turned));
        System.out.println("the tick changes " + bench.tick() + ", to come: " + bench.pending());
        bench.pass(5);
        System.out.println("the bus changed " + bench.changes(bus) + " times, last at " + bench.lastChange(bus));

        System.out.println("the bus arrives at " + bench.arrival(bus) + ", slack by 8: " + bench.slack(on, 8));
        System.out.println("turned stands for " + bench.stands(turned));
        System.out.println("the bus is not the bit by row " + bench.differs(bus, bit));

        bench.mark(bus, true);
        int row = bench.findTest(on, '0');
        System.out.println("row " + row + " shows the input stuck at 0: " + bench.shows(on, '0', row));
        System.out.println("tests: " + bench.addTest(row) + ", shown: " + bench.shown());

        System.out.println("activity " + bench.activity() + ", known " + bench.knownShare()
                + ", mean arrival " + bench.meanArrival() + ", sound " + bench.isSound());
    }
}
