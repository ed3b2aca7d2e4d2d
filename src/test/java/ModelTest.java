import java.util.ArrayDeque;
import java.util.ArrayList;
import java.util.Deque;
import java.util.List;

/** Made-up runs of calls, right and wrong ones, answered by Deltacycle as by Model. All runs are the same each time. */
final class ModelTest {
    private static final int RUNS = 250;
    private static final int CALLS = 512;
    private static final int MOST_TOLD = 10;

    private long seed;
    private Deltacycle bench;
    private Model model;
    private int nets;
    private final List<Integer> inputs = new ArrayList<>();
    private final List<Integer> registers = new ArrayList<>();
    private final List<Integer> buses = new ArrayList<>();

    /** How the runs differ: their most nets, how many of a thousand calls build, and how many are wrong. */
    private int mostNets;
    private int buildingShare;
    private int wrongShare;
    private int mostDelay;

    private int callsWrong = 0;
    private long callsMade = 0;
    private long callsThrown = 0;

    private interface Call {
        Object on();
    }

    public static void main(String[] args) {
        ModelTest test = new ModelTest();
        for (int run = 0; run < RUNS && test.callsWrong < MOST_TOLD; run++) {
            test.run(run);
        }
        System.out.println(RUNS + " runs, " + test.callsMade + " calls, of which " + test.callsThrown + " threw");
        if (test.callsWrong != 0) {
            System.exit(1);
        }
    }

    private int below(int bound) {
        seed = seed * 6364136223846793005L + 1442695040888963407L;
        return (int) ((seed >>> 33) % bound);
    }

    private boolean isOneOf(int many) {
        return below(many) == 0;
    }

    private char oneOf(String chars) {
        return chars.charAt(below(chars.length()));
    }

    private void run(int run) {
        seed = 77777L * run + 3;
        bench = new Deltacycle();
        model = new Model();
        nets = 0;
        inputs.clear();
        registers.clear();
        buses.clear();
        mostNets = new int[] {5, 10, 20, 40, 50}[below(5)];
        buildingShare = new int[] {5, 20, 60}[below(3)];
        wrongShare = new int[] {0, 30, 150}[below(3)];
        mostDelay = new int[] {1, 3, 10}[below(3)];
        Deque<String> told = new ArrayDeque<>();
        for (int i = 0; i < CALLS; i++) {
            if (!makeCall(run, i, told)) {
                callsWrong++;
                return;
            }
        }
    }

    private boolean makeCall(int run, int at, Deque<String> told) {
        String[] name = new String[1];
        Call[] calls = at < 2 * mostNets || below(1000) < buildingShare ? building(name) : asking(name);
        Object due = answer(calls[1]);
        Object got = answer(calls[0]);
        callsMade++;
        callsThrown += due instanceof String ? 1 : 0;
        told.add(name[0] + " -> " + due);
        if (due.equals(got)) {
            return true;
        }
        System.out.println("run " + run + ", call " + at + ": answered " + got);
        for (String one : told) {
            System.out.println("    " + one);
        }
        return false;
    }

    private static Object answer(Call call) {
        try {
            return call.on();
        } catch (RuntimeException e) {
            return Check.thrown(e);
        }
    }

    private int net() {
        return isWrong() ? new int[] {-1, nets, 40, Integer.MAX_VALUE, Integer.MIN_VALUE}[below(5)] : below(Math.max(nets, 1));
    }

    private int netOf(List<Integer> kind) {
        return kind.isEmpty() || isWrong() ? net() : kind.get(below(kind.size()));
    }

    /** A net of late, so that circuits grow deep. */
    private int lateNet() {
        return isWrong() ? nets + below(3) : Math.max(0, nets - 1 - below(6));
    }

    private int readNet() {
        return isOneOf(2) ? net() : lateNet();
    }

    private int delay() {
        return isWrong() ? new int[] {-1, 10, 99}[below(3)] : below(mostDelay);
    }

    private int row() {
        return isWrong() ? new int[] {-1, 256, Integer.MIN_VALUE}[below(3)] : below(isOneOf(3) ? 256 : 4);
    }

    private char knownValue() {
        return isWrong() ? oneOf("xz2\0") : oneOf("01");
    }

    private boolean isWrong() {
        return below(1000) < wrongShare;
    }

    private Call[] building(String[] name) {
        int most = Math.max(mostNets, 1);
        int which = nets >= most ? 7 + below(4) : below(11);
        int first = readNet();
        int second = isOneOf(5) ? first : readNet();
        int delay = delay();
        switch (which) {
            case 0:
            case 1:
                name[0] = "addInput()";
                return counted(inputs, new Call[] {bench::addInput, model::addInput});
            case 2:
                name[0] = "addRegister()";
                return counted(registers, new Call[] {bench::addRegister, model::addRegister});
            case 3:
                name[0] = "addBus()";
                return counted(buses, new Call[] {bench::addBus, model::addBus});
            case 7:
            case 8:
                int bus = netOf(buses);
                name[0] = "addOpen(" + bus + ", " + first + ", " + second + ", " + delay + ")";
                return new Call[] {() -> bench.addOpen(bus, first, second, delay), () -> model.addOpen(bus, first, second, delay)};
            case 9:
                int register = netOf(registers);
                name[0] = "connect(" + register + ", " + first + ")";
                return new Call[] {() -> bench.connect(register, first), () -> model.connect(register, first)};
            case 10:
                boolean isMarked = !isOneOf(4);
                name[0] = "mark(" + first + ", " + isMarked + ")";
                return new Call[] {() -> bench.mark(first, isMarked), () -> model.mark(first, isMarked)};
            default:
                char kind = isWrong() ? oneOf("o!\0z") : oneOf("~=&|^");
                name[0] = "addGate(" + kind + ", " + first + ", " + second + ", " + delay + ")";
                return counted(new ArrayList<>(), new Call[] {
                    () -> bench.addGate(kind, first, second, delay), () -> model.addGate(kind, first, second, delay)});
        }
    }

    /** The model's call, which comes first, also tells how many nets there are, and of which kind. */
    private Call[] counted(List<Integer> kind, Call[] calls) {
        Call ofModel = calls[1];
        calls[1] = () -> {
            int answer = (Integer) ofModel.on();
            nets = answer + 1;
            kind.add(answer);
            return answer;
        };
        return calls;
    }

    private Call[] asking(String[] name) {
        int net = net();
        int other = net();
        char known = knownValue();
        int row = row();
        int which = below(isOneOf(6) ? 24 : 13);
        switch (which) {
            case 0:
            case 1:
            case 2:
                return setting(name, netOf(inputs), isWrong() ? oneOf("2Z\0y") : oneOf("000111xz"));
            case 3:
                name[0] = "tick()";
                return new Call[] {bench::tick, model::tick};
            case 4:
                int register = netOf(registers);
                name[0] = "reset(" + register + ", " + known + ")";
                return new Call[] {() -> bench.reset(register, known), () -> model.reset(register, known)};
            case 5:
            case 6:
                int steps = isWrong() ? oneOf("\0\145") : 1 + below(isOneOf(9) ? 100 : 5);
                name[0] = "pass(" + steps + ")";
                return new Call[] {() -> bench.pass(steps), () -> model.pass(steps)};
            case 7:
            case 8:
                name[0] = "value(" + net + ")";
                return new Call[] {() -> bench.value(net), () -> model.value(net)};
            case 9:
                name[0] = "changes(" + net + ")";
                return new Call[] {() -> bench.changes(net), () -> model.changes(net)};
            case 10:
                name[0] = "lastChange(" + net + ")";
                return new Call[] {() -> bench.lastChange(net), () -> model.lastChange(net)};
            case 11:
                name[0] = "pending()";
                return new Call[] {bench::pending, model::pending};
            case 12:
                name[0] = "settled(" + net + ")";
                return new Call[] {() -> bench.settled(net), () -> model.settled(net)};
            default:
                return studying(name, which, net, other, known, row);
        }
    }

    private Call[] setting(String[] name, int net, char value) {
        name[0] = "setInput(" + net + ", " + value + ")";
        return new Call[] {() -> bench.setInput(net, value), () -> model.setInput(net, value)};
    }

    private Call[] studying(String[] name, int which, int net, int other, char known, int row) {
        int period = isWrong() ? oneOf("\0\144") : 1 + below(99);
        switch (which) {
            case 13:
                name[0] = "arrival(" + net + ")";
                return new Call[] {() -> bench.arrival(net), () -> model.arrival(net)};
            case 14:
                name[0] = "slack(" + net + ", " + period + ")";
                return new Call[] {() -> bench.slack(net, period), () -> model.slack(net, period)};
            case 15:
                name[0] = "stands(" + net + ")";
                return new Call[] {() -> bench.stands(net), () -> model.stands(net)};
            case 16:
                name[0] = "differs(" + net + ", " + other + ")";
                return new Call[] {() -> bench.differs(net, other), () -> model.differs(net, other)};
            case 17:
                name[0] = "shows(" + net + ", " + known + ", " + row + ")";
                return new Call[] {() -> bench.shows(net, known, row), () -> model.shows(net, known, row)};
            case 18:
                name[0] = "findTest(" + net + ", " + known + ")";
                return new Call[] {() -> bench.findTest(net, known), () -> model.findTest(net, known)};
            case 19:
                name[0] = "addTest(" + row + ")";
                return new Call[] {() -> bench.addTest(row), () -> model.addTest(row)};
            case 20:
                name[0] = "shown()";
                return new Call[] {bench::shown, model::shown};
            case 21:
                name[0] = "activity()";
                return new Call[] {bench::activity, model::activity};
            case 22:
                name[0] = "knownShare() and meanArrival()";
                return new Call[] {() -> bench.knownShare() + bench.meanArrival(), () -> model.knownShare() + model.meanArrival()};
            default:
                name[0] = "isSound()";
                return new Call[] {bench::isSound, model::isSound};
        }
    }
}
