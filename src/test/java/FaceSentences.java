import java.io.IOException;
import java.lang.reflect.Method;
import java.nio.file.Files;
import java.nio.file.Path;
import java.util.ArrayList;
import java.util.List;
import java.util.regex.Matcher;
import java.util.regex.Pattern;

/**
 * What stands ahead of "Terms" and behind the promises, and the face: here it is the class's own text that is
 * looked up in the document, so that a signature that differs in either of them is found.
 */
final class FaceSentences {
    private static final Path CLASS = Path.of("src/main/java/Deltacycle.java");
    private static final int MOST_CALLS = 512;

    /** A comment that stands alone on its line ahead of calls, or what declares one of them. */
    private static final Pattern PART = Pattern.compile(
            "\\n    // (?<title>[^\\n]*)\\n|\\n    public (?<signature>(?:[a-z]+ )?(?<name>\\w+)\\([^{;]*?)\\s*\\{");

    private final Document document;

    FaceSentences(Document document) {
        this.document = document;
    }

    void check() throws IOException {
        whatItIs();
        mostCalls();
        face();
        notPromised();
    }

    private void whatItIs() {
        document.quote(Document.WHAT_IT_IS, "A bench of circuits and their simulation: inputs, gates with delays, buses with"
                + " open gates, and registers make nets with four values; changes come step by step, and within a step one"
                + " behind the other; what a net settles to, how late it arrives, for what it stands, and by which rows it"
                + " is shown to be stuck are found.");
        Deltacycle x = Benches.ofInputs(2);
        x.addGate('~', 0, 0, 1);
        x.addGate('&', 2, 2, 0);
        x.addBus();
        x.addOpen(4, 3, 1, 2);
        x.addRegister();
        x.connect(5, 4);
        Benches.set(x, "00");
        Check.due("four values", "" + x.value(0) + x.value(2) + x.value(3) + x.value(4) + x.value(5), "0xxxx");
        Check.due("what the nets settle to", "" + x.settled(2) + x.settled(3) + x.settled(4) + x.settled(5), "11zx");
        x.pass(1);
        Check.due("one behind the other within a step", "" + x.value(2) + x.value(3) + x.value(4), "11x");
        x.pass(1);
        Check.due("step by step", x.value(4), 'z');
        Check.due("how late it arrives", x.arrival(4), 3);
        Check.due("for what it stands", x.stands(3), 2);
        Check.due("by which row it is shown to be stuck", x.findTest(3, '0'), 2);
    }

    private void mostCalls() {
        document.quote(Document.WHAT_IT_IS,
                "An object is used for at most 512 calls after it has been made; what later calls answer is free.");
        Deltacycle x = Benches.ofInputs(Benches.MOST_SOURCES);
        int calls = Benches.MOST_SOURCES;
        for (int net = Benches.MOST_SOURCES; net < Benches.MOST_NETS; net++) {
            x.addGate(net % 2 == 0 ? '^' : '|', net - 1, net - 8, 9);
            calls++;
        }
        for (; calls < MOST_CALLS - 1; calls++) {
            Check.due("call " + (calls + 1), x.isSound(), true);
        }
        Check.due("the last call", x.arrival(Benches.MOST_NETS - 1), 9 * (Benches.MOST_NETS - Benches.MOST_SOURCES));
    }

    private void face() throws IOException {
        document.quote(Document.FACE, "import java.util.NoSuchElementException;");
        document.quote(Document.FACE, "public final class Deltacycle {");
        document.quote(Document.FACE, "}");
        String text = Files.readString(CLASS);
        Check.due("the import", text.contains("\nimport java.util.NoSuchElementException;\n"), true);
        Check.due("the class", text.contains("\npublic final class Deltacycle {\n"), true);
        Matcher part = PART.matcher(text);
        int promise = 0;
        String title = "";
        List<String> names = new ArrayList<>();
        for (int from = 0; part.find(from); from = part.end() - 1) {
            if (part.group("title") == null) {
                promise++;
                signature(promise, part.group("signature").replaceAll("\\s+", " "));
                names.add("`" + part.group("name") + "`");
            } else {
                aheadOf(names, title);
                title = part.group("title");
                names.clear();
            }
        }
        Check.due("promises with a signature", promise, 29);
    }

    private void signature(int promise, String signature) {
        document.quote(Document.FACE, "public " + signature + ";");
        document.quote(promise, "`" + signature + "`");
    }

    /** Nothing is said ahead of the constructor, and of what is behind the calls. */
    private void aheadOf(List<String> names, String title) {
        if (!title.isEmpty()) {
            String calls = "Ahead of the calls " + String.join(", ", names);
            document.quote(Document.FACE, calls + " the interface says: " + title + ".");
        }
    }

    private void notPromised() {
        document.quote(Document.NOT_PROMISED, "How the state is held inside the object is free, as are the speed of each"
                + " call, the text of toString and the behaviour of equals and hashCode.");
        for (Method method : Deltacycle.class.getDeclaredMethods()) {
            boolean isFree = method.getName().matches("toString|equals|hashCode");
            Check.due(method.getName() + " is left as it is", isFree, false);
        }
        document.quote(Document.NOT_PROMISED, "Use of one object from several threads at once is not promised to be safe.");
        document.quote(Document.NOT_PROMISED, "Nothing is promised beyond the answers and state changes described above,"
                + " and nothing about an object after its 512th call.");
        Deltacycle x = Benches.ofInputs(1);
        Deltacycle other = Benches.ofInputs(2);
        x.setInput(0, '1');
        x.pass(1);
        x.addTest(1);
        x.mark(0, true);
        Check.due("the other's nets", other.addBus(), 2);
        Check.due("the other's value", other.value(0), 'x');
        Check.due("the other's time", other.pass(1), 1);
        Check.due("the other's tests", other.addTest(0), 1);
        Check.due("the other's mark", other.mark(0, false), false);
    }
}
