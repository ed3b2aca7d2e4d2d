/** Promises 18 to 21. */
final class DelaysTest {
    private static final Class<IndexOutOfBoundsException> INDEX = IndexOutOfBoundsException.class;

    public static void main(String[] args) {
        arrival();
        slack();
        slackOfManyWays();
        standsForItself();
        standsForWhatItRepeats();
        standsForTheLowestAlike();
        standsForNoBus();
        standsDespiteDelays();
        standsRefuses();
        differs();
        differsWithBuses();
        Check.end();
    }

    private static void arrival() {
        Deltacycle x = new Deltacycle();
        x.addInput();
        x.addRegister();
        x.addGate('&', 0, 1, 3);
        x.addGate('^', 2, 0, 9);
        x.addBus();
        Check.due("an input", x.arrival(0), 0);
        Check.due("a register", x.arrival(1), 0);
        Check.due("a gate", x.arrival(2), 3);
        Check.due("a gate by its later net", x.arrival(3), 12);
        Check.due("a bus without open gates", x.arrival(4), 0);
        x.addGate('=', 4, 0, 2);
        Check.due("behind it", x.arrival(5), 2);
        x.addOpen(4, 0, 1, 5);
        Check.due("a bus of one", x.arrival(4), 5);
        x.addOpen(4, 0, 2, 4);
        Check.due("a bus by the opener", x.arrival(4), 7);
        x.addOpen(4, 3, 0, 0);
        Check.due("a bus by the latest", x.arrival(4), 12);
        Check.due("behind it", x.arrival(5), 14);
        x.addOpen(4, 0, 0, 1);
        Check.due("a bus by the latest, not the last", x.arrival(4), 12);
        x.connect(1, 5);
        Check.due("a register still", x.arrival(1), 0);
        Check.dueThrow("arrival(6)", INDEX, () -> x.arrival(6));
        Check.dueThrow("arrival(-1)", INDEX, () -> x.arrival(-1));
    }

    private static void slack() {
        Deltacycle x = new Deltacycle();
        x.addInput();
        x.addGate('~', 0, 0, 9);
        x.addGate('~', 1, 0, 9);
        x.addRegister();
        x.connect(3, 1);
        x.addBus();
        x.addOpen(4, 0, 2, 1);
        Check.due("the way goes on behind a register's net", x.slack(1, 20), 1);
        Check.due("from the beginning", x.slack(0, 99), 80);
        Check.due("in the end", x.slack(4, 19), 0);
        Check.due("less than nothing", x.slack(2, 1), -18);
        Check.due("a register that nothing reads", x.slack(3, 7), 7);
        Check.dueThrow("period 0", IllegalArgumentException.class, () -> x.slack(0, 0));
        Check.dueThrow("period 100", IllegalArgumentException.class, () -> x.slack(0, 100));
        Check.dueThrow("no such net first", INDEX, () -> x.slack(5, 0));
        Check.dueThrow("slack(-1)", INDEX, () -> x.slack(-1, 1));
    }

    private static void slackOfManyWays() {
        Deltacycle x = new Deltacycle();
        x.addInput();
        x.addInput();
        x.addGate('=', 0, 0, 4);
        x.addGate('&', 2, 1, 1);
        x.addGate('|', 1, 3, 2);
        x.addGate('=', 1, 0, 9);
        x.addBus();
        x.addGate('^', 6, 3, 8);
        Check.due("by the longest way before", x.slack(3, 50), 50 - 4 - 1 - 8);
        Check.due("by the longest way behind", x.slack(1, 50), 50 - 9);
        Check.due("by its own way alone", x.slack(4, 50), 50 - 7);
        Check.due("from a bus without open gates", x.slack(6, 50), 50 - 8);
        x.addOpen(6, 0, 1, 3);
        Check.due("through a bus", x.slack(6, 50), 50 - 3 - 8);
        Check.due("the opener's way", x.slack(1, 50), 50 - 11);
    }

    private static void standsForItself() {
        Deltacycle x = new Deltacycle();
        x.addInput();
        x.addRegister();
        x.addBus();
        x.addGate('&', 0, 1, 0);
        x.addGate('~', 0, 0, 0);
        for (int net = 0; net < 5; net++) {
            Check.due("stands(" + net + ")", x.stands(net), net);
        }
        x.connect(1, 0);
        Check.due("a register that takes", x.stands(1), 1);
    }

    private static void standsForWhatItRepeats() {
        Deltacycle x = new Deltacycle();
        x.addInput();
        x.addInput();
        x.addGate('=', 0, 0, 0);
        x.addGate('=', 2, 0, 0);
        Check.due("'=' of '='", x.stands(3), 0);
        x.addGate('~', 3, 0, 0);
        x.addGate('~', 4, 0, 0);
        Check.due("'~'", x.stands(4), 4);
        Check.due("'~' of '~'", x.stands(5), 0);
        x.addGate('=', 4, 0, 0);
        x.addGate('~', 6, 0, 0);
        Check.due("'~' of '=' of '~'", x.stands(7), 0);
        x.addGate('&', 5, 2, 0);
        Check.due("'&' of the same", x.stands(8), 0);
        x.addGate('|', 8, 7, 0);
        Check.due("'|' of the same", x.stands(9), 0);
        x.addGate('^', 0, 9, 0);
        Check.due("'^' of the same", x.stands(10), 10);
        x.addGate('~', 10, 0, 0);
        x.addGate('~', 11, 0, 0);
        Check.due("'~' of '~' of '^'", x.stands(12), 10);
        x.addGate('&', 12, 10, 0);
        Check.due("'&' of one gate", x.stands(13), 10);
    }

    private static void standsForTheLowestAlike() {
        Deltacycle x = new Deltacycle();
        x.addInput();
        x.addInput();
        x.addGate('&', 0, 1, 0);
        x.addGate('&', 1, 0, 0);
        Check.due("in the other order", x.stands(3), 2);
        x.addGate('=', 1, 0, 0);
        x.addGate('&', 0, 4, 0);
        Check.due("of what they stand for", x.stands(5), 2);
        x.addGate('|', 0, 1, 0);
        Check.due("another kind", x.stands(6), 6);
        x.addGate('|', 4, 0, 0);
        Check.due("its own kind", x.stands(7), 6);
        x.addGate('^', 0, 0, 0);
        x.addGate('^', 0, 1, 0);
        x.addGate('^', 1, 1, 0);
        Check.due("twice the same is not two", x.stands(9), 9);
        Check.due("twice another", x.stands(10), 10);
        x.addGate('^', 4, 1, 0);
        Check.due("twice that one", x.stands(11), 10);
        x.addGate('~', 3, 0, 0);
        x.addGate('~', 5, 0, 0);
        Check.due("'~' of those alike", x.stands(13), 12);
        x.addGate('~', 0, 0, 0);
        Check.due("'~' of another", x.stands(14), 14);
        x.addGate('|', 13, 14, 0);
        x.addGate('|', 14, 12, 0);
        Check.due("a layer more", x.stands(16), 15);
    }

    private static void standsForNoBus() {
        Deltacycle x = new Deltacycle();
        x.addInput();
        x.addBus();
        x.addOpen(1, 0, 0, 0);
        x.addGate('=', 1, 0, 0);
        x.addGate('=', 1, 0, 0);
        Check.due("'=' of a bus", x.stands(2), 2);
        Check.due("another '=' of the bus", x.stands(3), 2);
        x.addGate('=', 3, 0, 0);
        Check.due("'=' of that", x.stands(4), 2);
        x.addGate('~', 1, 0, 0);
        x.addGate('~', 5, 0, 0);
        Check.due("'~' of a bus", x.stands(5), 5);
        Check.due("'~' of '~' of a bus", x.stands(6), 6);
        x.addGate('~', 5, 0, 0);
        Check.due("the same once more", x.stands(7), 6);
        x.addGate('~', 6, 0, 0);
        Check.due("'~' three times", x.stands(8), 5);
        x.addGate('&', 1, 1, 0);
        x.addGate('|', 1, 1, 0);
        x.addGate('|', 1, 1, 0);
        Check.due("'&' of a bus", x.stands(9), 9);
        Check.due("'|' of a bus", x.stands(10), 10);
        Check.due("another '|' of the bus", x.stands(11), 10);
        x.addGate('~', 2, 0, 0);
        x.addGate('~', 12, 0, 0);
        Check.due("'~' of '~' of '=' of a bus", x.stands(13), 2);
        x.addBus();
        x.addGate('=', 14, 0, 0);
        Check.due("'=' of another bus", x.stands(15), 15);
        Check.due("a bus", x.stands(14), 14);
        Check.due("sound", x.isSound(), true);
    }

    private static void standsDespiteDelays() {
        Deltacycle x = new Deltacycle();
        x.addInput();
        x.addGate('^', 0, 0, 1);
        x.addGate('^', 0, 0, 9);
        x.setInput(0, '1');
        Check.due("delays are of no meaning", x.stands(2), 1);
    }

    private static void standsRefuses() {
        Deltacycle x = new Deltacycle();
        x.addInput();
        Check.dueThrow("stands(1)", INDEX, () -> x.stands(1));
        Check.dueThrow("stands(-1)", INDEX, () -> x.stands(-1));
        Check.dueThrow("stands(40)", INDEX, () -> x.stands(40));
    }

    private static void differs() {
        Deltacycle x = new Deltacycle();
        x.addInput();
        x.addBus();
        x.addInput();
        x.addRegister();
        Check.due("the bits go by rising nets", x.differs(0, 2), 1);
        Check.due("the second bit", x.differs(2, 3), 2);
        Check.due("the same net", x.differs(3, 3), -1);
        x.addGate('&', 0, 2, 5);
        x.addGate('&', 4, 3, 5);
        Check.due("two bits", x.differs(4, 5), 3);
        x.addGate('^', 0, 0, 1);
        Check.due("all bits", x.differs(5, 6), 7);
        x.addGate('=', 0, 0, 1);
        Check.due("never", x.differs(7, 0), -1);
        x.setInput(0, 'z');
        Check.due("what is set is of no meaning", x.differs(7, 0), -1);
        Check.due("nothing is changed by it", x.value(0), 'z');
        Check.dueThrow("no such first", INDEX, () -> x.differs(8, 0));
        Check.dueThrow("no such second", INDEX, () -> x.differs(0, 8));
        Check.dueThrow("negative", INDEX, () -> x.differs(-1, -1));
    }

    private static void differsWithBuses() {
        Deltacycle x = new Deltacycle();
        x.addInput();
        x.addInput();
        x.addBus();
        x.addBus();
        Check.due("two empty buses", x.differs(2, 3), -1);
        x.addGate('=', 2, 0, 0);
        Check.due("'z' and 'x'", x.differs(2, 4), 0);
        x.addOpen(3, 0, 1, 0);
        Check.due("one that opens with the second", x.differs(2, 3), 2);
        Deltacycle none = new Deltacycle();
        none.addBus();
        none.addGate('=', 0, 0, 0);
        Check.due("without inputs there is row 0", none.differs(0, 1), 0);
        Check.due("and no other", none.differs(1, 1), -1);
    }
}
