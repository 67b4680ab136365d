import java.io.IOException;
import java.lang.reflect.Constructor;
import java.lang.reflect.Field;
import java.lang.reflect.Method;
import java.lang.reflect.Modifier;
import java.nio.file.Files;
import java.nio.file.Path;
import java.util.ArrayList;
import java.util.List;
import java.util.Set;
import java.util.TreeSet;
import java.util.regex.Matcher;
import java.util.regex.Pattern;

/** The public face of the class, and the rules of LANGUAGE.md that can be seen from outside. */
public final class FaceTest {
    private static final String SOURCE = "src/main/java/InkPrintery.java";
    private static final String[] FACE = {
        "int addInk(int,int) throws IllegalArgumentException,IllegalStateException",
        "int addPaper(int) throws IllegalArgumentException,IllegalStateException",
        "int pass(int) throws IllegalArgumentException",
        "int ink(int) throws IllegalArgumentException",
        "int paper()",
        "int hour()",
        "int inkAfter(int,int) throws IllegalArgumentException",
        "int inkByHalvings(int,int) throws IllegalArgumentException",
        "int hoursUntilLess(int,int) throws IllegalArgumentException",
        "int addEdition(int,int) throws IllegalArgumentException,IllegalStateException",
        "int removeEdition(int) throws IndexOutOfBoundsException",
        "int print(int) throws IndexOutOfBoundsException,IllegalStateException,"
            + "UnsupportedOperationException",
        "int printAll()",
        "int editionCount()",
        "int colourOf(int) throws IndexOutOfBoundsException",
        "int runOf(int) throws IndexOutOfBoundsException",
        "int printedOf(int) throws IndexOutOfBoundsException",
        "boolean isComplete(int) throws IndexOutOfBoundsException",
        "int changeMinutes(int,int) throws IllegalArgumentException",
        "int pressColour()",
        "int fewestMinutes()",
        "int minutesByOrders()",
        "int editionAt(int) throws NoSuchElementException",
        "int shareOf(int) throws IndexOutOfBoundsException",
        "int shareByLevel(int) throws IndexOutOfBoundsException",
        "int editionByMissing(int) throws NoSuchElementException",
        "int addProof(int) throws IllegalArgumentException,IllegalStateException",
        "int dropProof(int) throws IndexOutOfBoundsException",
        "int proofCount()",
        "int marksOf(int) throws IndexOutOfBoundsException",
        "int hourOf(int) throws IndexOutOfBoundsException",
        "int longestRise()",
        "int riseByEnds()",
        "int riseCount()",
        "int minutes()",
        "int poured()",
        "int used()",
        "long faded()",
        "int inkInWells()",
        "double meanRun() throws ArithmeticException",
        "float fadedShare() throws ArithmeticException",
        "int writeEdition(int) throws IndexOutOfBoundsException",
        "int writeWells()",
        "char lineAt(int) throws IndexOutOfBoundsException",
        "boolean isConsistent()",
        "int type(char) throws IllegalArgumentException,IllegalStateException",
        "int execute() throws IllegalArgumentException,IllegalStateException",
        "int errorPosition() throws NoSuchElementException",
        "int failedCommand() throws NoSuchElementException",
        "int undo() throws IllegalStateException",
        "int save()",
        "int restore() throws IllegalStateException"
    };
    private static final String[] RULED_OUT = {"->", "::", "\\bcatch\\b", "\\bfinally\\b",
        "\\bsynchronized\\b", "\\bassert\\b", "\\bpackage\\b", "\\bvolatile\\b", "\\binstanceof\\b",
        "\\bstatic \\{", "\\bStream\\b", "\\bvar\\b"};

    private FaceTest() {
    }

    public static void main(String[] args) {
        Check.test("the public methods", FaceTest::publicMethods);
        Check.test("rule 1: no other member", FaceTest::noOtherMember);
        Check.test("rule 1: names of private methods", FaceTest::privateNames);
        Check.test("rule 1: the classes inside", FaceTest::classesInside);
        Check.test("rules 2, 6 and 10: words that are ruled out", FaceTest::ruledOut);
        Check.test("rule 4: imports", FaceTest::imports);
        Check.test("rule 11: lengths and counts", FaceTest::lengths);
        Check.test("rule 12: nothing is made by calls", FaceTest::makesNothing);
        Check.end();
    }

    private static String signature(Method method) {
        String result = method.getReturnType().getSimpleName();
        String call = result + " " + method.getName() + namesOf(method.getParameterTypes(), "(", ")");
        return call + namesOf(method.getExceptionTypes(), " throws ", "").replaceAll(" throws $", "");
    }

    private static String namesOf(Class<?>[] types, String before, String after) {
        List<String> names = new ArrayList<>();
        for (Class<?> type : types) {
            names.add(type.getSimpleName());
        }
        return before + String.join(",", names) + after;
    }

    private static void publicMethods() {
        Set<String> got = new TreeSet<>();
        for (Method method : InkPrintery.class.getDeclaredMethods()) {
            if (Modifier.isPublic(method.getModifiers())) {
                got.add(signature(method));
            }
        }
        Set<String> due = new TreeSet<>(List.of(FACE));
        Check.due("the public methods", got.toString(), due.toString());
        Check.due("their number", got.size(), 52);
        int modifiers = InkPrintery.class.getModifiers();
        Check.due("the class's modifiers", modifiers, Modifier.PUBLIC | Modifier.FINAL);
    }

    private static void noOtherMember() {
        for (Method method : InkPrintery.class.getDeclaredMethods()) {
            int access = method.getModifiers() & (Modifier.PUBLIC | Modifier.PRIVATE);
            Check.due(method + " is public or private", access != 0, true);
        }
        for (Field field : InkPrintery.class.getDeclaredFields()) {
            Check.due(field + " is private", Modifier.isPrivate(field.getModifiers()), true);
            boolean kept = !Modifier.isStatic(field.getModifiers())
                    || Modifier.isFinal(field.getModifiers());
            Check.due(field + " is final if it is static", kept, true);
        }
        Constructor<?>[] constructors = InkPrintery.class.getDeclaredConstructors();
        Check.due("constructors", constructors.length, 1);
        Check.due("its parameters", constructors[0].getParameterCount(), 0);
    }

    private static void privateNames() {
        Set<String> faceNames = new TreeSet<>();
        for (String call : FACE) {
            faceNames.add(call.substring(call.indexOf(' ') + 1, call.indexOf('(')));
        }
        for (Method method : InkPrintery.class.getDeclaredMethods()) {
            boolean clashes = Modifier.isPrivate(method.getModifiers())
                    && faceNames.contains(method.getName());
            Check.due(method + " bears a name of the face", clashes, false);
        }
        for (Class<?> inside : InkPrintery.class.getDeclaredClasses()) {
            for (Method method : inside.getDeclaredMethods()) {
                boolean clashes = faceNames.contains(method.getName());
                Check.due(method + " bears a name of the face", clashes, false);
            }
        }
    }

    private static void classesInside() {
        Class<?>[] inside = InkPrintery.class.getDeclaredClasses();
        Check.due("at most twelve classes", inside.length + 1 <= 12, true);
        for (Class<?> each : inside) {
            boolean fits = Modifier.isStatic(each.getModifiers())
                    && Modifier.isPrivate(each.getModifiers());
            Check.due(each + " is private and static", fits, true);
        }
    }

    private static String source() {
        try {
            return Files.readString(Path.of(SOURCE));
        } catch (IOException e) {
            throw new IllegalStateException("no " + SOURCE, e);
        }
    }

    private static void ruledOut() {
        String source = source();
        for (String rule : RULED_OUT) {
            Check.due("source has " + rule, Pattern.compile(rule).matcher(source).find(), false);
        }
        boolean plain = source.chars().allMatch(sign -> sign == '\n' || sign >= 32 && sign < 127);
        Check.due("source has plain signs alone", plain, true);
    }

    private static void imports() {
        Matcher matcher = Pattern.compile("import [^;]*").matcher(source());
        while (matcher.find()) {
            Check.due("import", matcher.group(), "import java.util.NoSuchElementException");
        }
    }

    private static void lengths() {
        int together = 0;
        for (String line : source().split("\n")) {
            Check.due("the line is short: " + line, line.length() <= 100, true);
            // A blank line stands between two methods and none within one.
            together = line.isEmpty() ? 0 : together + 1;
            Check.due("the method is short: " + line, together <= 60, true);
        }
        for (Class<?> each : InkPrintery.class.getDeclaredClasses()) {
            Check.due("fields of " + each, each.getDeclaredFields().length <= 20, true);
        }
    }

    /** What a run makes is counted, so objects are made with the printery alone. */
    private static void makesNothing() {
        for (String line : source().split("\n")) {
            boolean makes = line.contains(" new ") && !line.contains("throw new ");
            boolean once = line.contains("final ") || line.contains("before[index] = new Shop()");
            Check.due("made in" + line, makes && !once, false);
        }
    }
}
