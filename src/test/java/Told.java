/**
 * All that a bench tells of itself, as text, in parts; each part is for a bench of its own, since what it tells
 * it finds out by calls that change the bench, and by so many that all parts together would be too many.
 */
final class Told {
    static final int PARTS = 3;

    private interface Call {
        Object on();
    }

    private Told() {
    }

    static String by(Deltacycle x, int part) {
        StringBuilder told = new StringBuilder();
        switch (part) {
            case 0 -> looks(x, told);
            case 1 -> goingOn(x, told);
            default -> buildingOn(x, told);
        }
        return told.toString();
    }

    private static String answer(Call call) {
        try {
            return call.on() + " ";
        } catch (RuntimeException e) {
            return e.getClass().getSimpleName() + " ";
        }
    }

    private static int netsOf(Deltacycle x) {
        for (int net = 0; net < Benches.MOST_NETS; net++) {
            try {
                x.value(net);
            } catch (IndexOutOfBoundsException e) {
                return net;
            }
        }
        return Benches.MOST_NETS;
    }

    private static void looks(Deltacycle x, StringBuilder told) {
        int nets = netsOf(x);
        for (int i = 0; i < nets; i++) {
            int net = i;
            told.append(x.value(net)).append(x.changes(net)).append(' ').append(answer(() -> x.lastChange(net)));
            told.append(x.settled(net)).append(x.arrival(net)).append(' ').append(x.slack(net, 50)).append(' ');
            told.append(x.stands(net)).append('\n');
        }
        told.append(x.pending()).append(' ').append(x.activity()).append(' ').append(x.shown()).append(' ');
        told.append(answer(x::knownShare)).append(answer(x::meanArrival)).append(x.isSound());
        told.append(answer(() -> x.differs(0, nets - 1))).append(answer(() -> x.findTest(0, '0')));
    }

    private static void goingOn(Deltacycle x, StringBuilder told) {
        int nets = netsOf(x);
        for (int round = 0; round < 4; round++) {
            told.append(answer(() -> x.pass(1))).append(x.pending()).append(' ').append(x.tick()).append(' ');
            for (int net = 0; net < nets; net++) {
                told.append(x.value(net));
            }
        }
        for (int i = 0; i < nets; i++) {
            int net = i;
            told.append(x.changes(net)).append(' ').append(x.mark(net, true)).append(answer(() -> x.setInput(net, '0')));
        }
        told.append(x.shown()).append(' ');
        for (int test = 0; test < 9; test++) {
            told.append(answer(() -> x.addTest(0)));
        }
    }

    private static void buildingOn(Deltacycle x, StringBuilder told) {
        int nets = netsOf(x);
        for (int i = 0; i < nets; i++) {
            int net = i;
            told.append(answer(() -> x.connect(net, 0))).append(answer(() -> x.addOpen(net, 0, nets - 1, 0)));
        }
        for (int source = 0; source <= Benches.MOST_SOURCES; source++) {
            told.append(answer(x::addRegister));
        }
        for (int net = 0; net <= Benches.MOST_NETS; net++) {
            told.append(answer(x::addBus));
        }
    }
}
