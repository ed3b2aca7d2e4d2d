import java.io.IOException;
import java.lang.reflect.Constructor;
import java.lang.reflect.Field;
import java.lang.reflect.Method;
import java.lang.reflect.Modifier;
import java.nio.file.Files;
import java.nio.file.Path;
import java.util.TreeSet;
import java.util.regex.Matcher;
import java.util.regex.Pattern;

/** The face of the class, and those rules of LANGUAGE.md that can be seen in its text. */
final class LanguageTest {
    private static final String[] FACE = {
        "boolean isSound()", "boolean mark(int,boolean)", "boolean shows(int,char,int)", "char reset(int,char)",
        "char setInput(int,char)", "char settled(int)", "char value(int)", "double meanArrival()",
        "float knownShare()", "int addBus()", "int addGate(char,int,int,int)", "int addInput()",
        "int addOpen(int,int,int,int)", "int addRegister()", "int addTest(int)", "int arrival(int)",
        "int changes(int)", "int connect(int,int)", "int differs(int,int)", "int findTest(int,char)",
        "int lastChange(int)", "int pass(int)", "int pending()", "int shown()", "int slack(int,int)",
        "int stands(int)", "int tick()", "long activity()",
    };

    private static final String[] FORBIDDEN = {
        "->", "::", "\\bfinally\\b", "\\btry\\b", "\\bcatch\\b", "\\bsynchronized\\b", "\\bassert\\b", "\\bwhile\\b",
        "\\bvolatile\\b", "\\bnative\\b", "static\\s*\\{", "\\bObject\\b", "\\bequals\\b", "\\bhashCode\\b",
        "\\btoString\\b", "\\bSystem\\.(?!arraycopy)", "\\bThread\\b", "\\bHash", "\\bStream", "Exact\\(", "\\bvar\\b",
        "Math\\.(?!max|min|abs)", "/(?![/*])", "%", "\\bpackage\\b", "\\bprotected\\b", "@",
    };

    public static void main(String[] args) throws IOException {
        face();
        nestedClasses();
        String text = Files.readString(Path.of("src/main/java/Deltacycle.java"));
        Check.due("all signs are plain", text.chars().allMatch(c -> c == '\n' || c >= 32 && c < 127), true);
        words(withoutComments(text));
        Check.end();
    }

    private static void face() {
        int modifiers = Deltacycle.class.getModifiers();
        Check.due("public and final", Modifier.isPublic(modifiers) && Modifier.isFinal(modifiers), true);
        TreeSet<String> open = new TreeSet<>();
        TreeSet<String> names = new TreeSet<>();
        TreeSet<String> hidden = new TreeSet<>();
        for (Method method : Deltacycle.class.getDeclaredMethods()) {
            if (Modifier.isPrivate(method.getModifiers()) || method.isSynthetic()) {
                hidden.add(method.getName());
            } else {
                open.add(signature(method));
                names.add(method.getName());
                Check.due(method.getName() + " is public", Modifier.isPublic(method.getModifiers()), true);
            }
        }
        Check.due("the face", open, new TreeSet<>(java.util.List.of(FACE)));
        hidden.retainAll(names);
        Check.due("private methods with the name of a public one", hidden, new TreeSet<String>());
        for (Field field : Deltacycle.class.getDeclaredFields()) {
            Check.due(field.getName() + " is private and final",
                    Modifier.isPrivate(field.getModifiers()) && Modifier.isFinal(field.getModifiers()), true);
        }
        Constructor<?>[] constructors = Deltacycle.class.getDeclaredConstructors();
        Check.due("one constructor", constructors.length, 1);
        Check.due("without parameters", constructors[0].getParameterCount(), 0);
    }

    private static String signature(Method method) {
        StringBuilder parameters = new StringBuilder();
        for (Class<?> type : method.getParameterTypes()) {
            parameters.append(parameters.length() == 0 ? "" : ",").append(type.getName());
        }
        return method.getReturnType().getName() + " " + method.getName() + "(" + parameters + ")";
    }

    private static void nestedClasses() {
        Class<?>[] nested = Deltacycle.class.getDeclaredClasses();
        Check.due("at most twelve classes", nested.length < 12, true);
        for (Class<?> one : nested) {
            int modifiers = one.getModifiers();
            Check.due(one.getName() + " is private", Modifier.isPrivate(modifiers), true);
            Check.due(one.getName() + " is static", Modifier.isStatic(modifiers), true);
            int fields = 0;
            for (Field field : one.getDeclaredFields()) {
                fields += Modifier.isStatic(field.getModifiers()) ? 0 : 1;
            }
            Check.due(one.getName() + " has at most twenty fields", fields <= 20, true);
        }
    }

    private static String withoutComments(String text) {
        return text.replaceAll("(?s)/\\*.*?\\*/", "").replaceAll("//[^\n]*", "");
    }

    private static void words(String text) {
        String program = text.replaceAll("\"[^\"\n]*\"", "text").replaceAll("\\(float\\) known /|\\(double\\) sum /", "");
        for (String word : FORBIDDEN) {
            Matcher found = Pattern.compile(word).matcher(program);
            Check.due("finds of " + word, found.find() ? found.group() : "none", "none");
        }
        Matcher imports = Pattern.compile("import ([^;]*);").matcher(program);
        while (imports.find()) {
            boolean isListed = imports.group(1).matches("java\\.util\\.(ArrayList|NoSuchElementException)");
            Check.due("import of " + imports.group(1), isListed, true);
        }
        Matcher thrown = Pattern.compile("throw new (\\w+)\\(").matcher(program);
        while (thrown.find()) {
            boolean isListed = thrown.group(1).matches("(IllegalState|IllegalArgument|IndexOutOfBounds|Arithmetic"
                    + "|UnsupportedOperation|NoSuchElement)Exception");
            Check.due("throw of " + thrown.group(1), isListed, true);
        }
    }
}
