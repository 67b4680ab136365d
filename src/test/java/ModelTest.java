import java.util.Random;

/** Long runs of calls: the class and the model must answer alike. */
public final class ModelTest {
    private static final int RUNS = 400;
    private static final int CALLS = 512;
    private static final String[] MODIFICATIONS = {"addInk", "addInk", "addInk", "addPaper", "pass",
        "addEdition", "addEdition", "removeEdition", "print", "printAll", "addProof", "addProof",
        "dropProof"};
    private static final String[] QUESTIONS = {"ink", "paper", "hour", "inkAfter", "inkByHalvings",
        "hoursUntilLess", "editionCount", "colourOf", "runOf", "printedOf", "isComplete",
        "changeMinutes", "pressColour", "fewestMinutes", "minutesByOrders", "editionAt", "shareOf",
        "shareByLevel", "editionByMissing", "proofCount", "marksOf", "hourOf", "longestRise",
        "riseByEnds", "riseCount", "minutes", "poured", "used", "faded", "inkInWells", "meanRun",
        "fadedShare", "writeEdition", "writeWells", "lineAt", "isConsistent", "errorPosition",
        "failedCommand"};
    private static final String[] WORDS = {"ink", "paper", "edition", "remove", "print", "all",
        "hours", "proof", "drop"};

    private final Random random;
    private final InkPrintery printery = new InkPrintery();
    private final Model model = new Model();
    private final String run;
    private int calls = 0;

    private ModelTest(int seed) {
        random = new Random(seed);
        run = "run " + seed;
    }

    public static void main(String[] args) {
        for (int seed = 0; seed < RUNS; seed++) {
            ModelTest test = new ModelTest(seed);
            Check.test(test.run, test::callAll);
        }
        Check.end();
    }

    private void callAll() {
        // Some runs modify much and some ask much; some have small numbers, some large ones.
        int modifying = 10 + random.nextInt(60);
        while (calls < CALLS) {
            int kind = random.nextInt(100);
            if (kind < modifying) {
                call(pick(MODIFICATIONS));
            } else if (kind < modifying + 4) {
                executeText();
            } else if (kind < modifying + 7) {
                call(random.nextInt(4) > 0 ? "undo" : random.nextBoolean() ? "save" : "restore");
            } else {
                call(pick(QUESTIONS));
            }
        }
    }

    private String pick(String[] names) {
        return names[random.nextInt(names.length)];
    }

    private void call(String name) {
        boolean wild = random.nextInt(25) == 0;
        int first = wild ? wildNumber() : firstFor(name);
        int second = wild ? wildNumber() : secondFor(name);
        compare(name, first, second);
    }

    private int wildNumber() {
        int[] numbers = {-1, 0, 7, 10, 12, 48, 49, 50, 51, 99, 100, 999, 1000, Integer.MIN_VALUE,
            Integer.MAX_VALUE};
        return numbers[random.nextInt(numbers.length)];
    }

    private int firstFor(String name) {
        switch (name) {
            case "addPaper": return random.nextInt(4) == 0 ? 1 + random.nextInt(999) : random.nextInt(60);
            case "pass": return random.nextInt(3) == 0 ? 1 + random.nextInt(48) : 1 + random.nextInt(3);
            case "addProof": return random.nextBoolean() ? random.nextInt(100) : random.nextInt(9);
            case "dropProof": case "marksOf": case "hourOf": return random.nextInt(12);
            case "lineAt": return random.nextInt(25);
            case "ink": case "addInk": case "inkAfter": case "inkByHalvings":
            case "hoursUntilLess": case "addEdition": case "changeMinutes":
                return random.nextInt(10);
            default: return random.nextInt(7);
        }
    }

    private int secondFor(String name) {
        switch (name) {
            case "addInk": return random.nextInt(3) == 0 ? 1 + random.nextInt(999) : random.nextInt(80);
            case "addEdition": return random.nextBoolean() ? random.nextInt(51) : 1 + random.nextInt(6);
            case "inkAfter": case "inkByHalvings": return random.nextInt(100);
            case "hoursUntilLess": return random.nextBoolean() ? random.nextInt(1000) : random.nextInt(9);
            default: return random.nextInt(10);
        }
    }

    private void executeText() {
        String text = text();
        for (int index = 0; index < text.length(); index++) {
            compare("type", text.charAt(index), 0);
        }
        compare("execute", 0, 0);
        compare("errorPosition", 0, 0);
        compare("failedCommand", 0, 0);
    }

    private String text() {
        StringBuilder text = new StringBuilder(command());
        while (random.nextInt(3) > 0 && text.length() < 45) {
            text.append(';').append(command());
        }
        if (random.nextInt(3) == 0) {
            damage(text);
        }
        return text.toString();
    }

    private String command() {
        String word = pick(WORDS);
        String digit = " " + random.nextInt(10);
        String number = " " + random.nextInt(random.nextBoolean() ? 100 : 8);
        switch (word) {
            case "ink": return word + digit + " " + random.nextInt(1000);
            case "paper": return word + " " + random.nextInt(1000);
            case "edition": return word + digit + number;
            case "remove": case "print": return word + " " + random.nextInt(4);
            case "all": return word;
            default: return word + number;
        }
    }

    private void damage(StringBuilder text) {
        String signs = "; 0129aeiopr~";
        char sign = signs.charAt(random.nextInt(signs.length()));
        int place = random.nextInt(text.length());
        switch (random.nextInt(4)) {
            case 0: text.setCharAt(place, sign); break;
            case 1: text.insert(place, sign); break;
            case 2: text.deleteCharAt(place); break;
            default: text.setLength(place); break;
        }
    }

    private void compare(String name, int first, int second) {
        calls++;
        String got = answerOfPrintery(name, first, second);
        String due = answerOfModel(name, first, second);
        Check.due("call " + calls + " " + name + "(" + first + ", " + second + ")", got, due);
    }

    private String answerOfModel(String name, int first, int second) {
        try {
            return "" + model.call(name, first, second);
        } catch (RuntimeException e) {
            return e.getClass().getSimpleName();
        }
    }

    private String answerOfPrintery(String name, int first, int second) {
        try {
            return "" + Face.call(printery, name, first, second);
        } catch (RuntimeException e) {
            return e.getClass().getSimpleName();
        }
    }
}
