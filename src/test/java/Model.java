import java.util.ArrayDeque;
import java.util.ArrayList;
import java.util.Comparator;
import java.util.Deque;
import java.util.List;
import java.util.NoSuchElementException;
import java.util.regex.Matcher;
import java.util.regex.Pattern;

/** The document once more, by other and slower means: lists, whole copies, all choices, a pattern. */
final class Model {
    private static final String DIGIT = " [0-9]";
    private static final String NUMBER = " [0-9]{1,2}";
    private static final String MANY = " [0-9]{1,3}";
    private static final String COMMAND = "(?:ink" + DIGIT + MANY + "|paper" + MANY + "|edition"
            + DIGIT + NUMBER + "|remove" + DIGIT + "|print" + DIGIT + "|all|hours" + NUMBER
            + "|proof" + NUMBER + "|drop" + NUMBER + ")";
    private static final Pattern TEXT = Pattern.compile(COMMAND + "(?:;" + COMMAND + ")*");

    record Edition(int colour, int run, int printed) {
        int missing() {
            return run - printed;
        }
    }

    record Proof(int marks, int hour) {
    }

    /** The state; it is copied as a whole before each modification. */
    private static final class State {
        int[] wells = new int[10];
        List<Edition> editions = new ArrayList<>();
        List<Proof> proofs = new ArrayList<>();
        int paper;
        int hour;
        int press;
        int minutes;
        int poured;
        int used;
        long faded;

        State copy() {
            State copy = new State();
            copy.wells = wells.clone();
            copy.editions = new ArrayList<>(editions);
            copy.proofs = new ArrayList<>(proofs);
            copy.paper = paper;
            copy.hour = hour;
            copy.press = press;
            copy.minutes = minutes;
            copy.poured = poured;
            copy.used = used;
            copy.faded = faded;
            return copy;
        }
    }

    private State now = new State();
    private final Deque<State> undos = new ArrayDeque<>();
    private State snapshot = null;
    private String text = "";
    private String line = "";
    private Integer errorPosition = null;
    private Integer failedCommand = null;

    /** Answers a call of the face; a boolean as 1 or 0, a fraction by its bits. */
    long call(String name, int a, int b) {
        switch (name) {
            case "addInk": case "addPaper": case "pass": case "addEdition": case "removeEdition":
            case "print": case "printAll": case "addProof": case "dropProof":
                return modify(name, a, b);
            case "type": return type((char) a);
            case "execute": return execute();
            case "undo": return undo();
            case "save":
                snapshot = now.copy();
                return now.editions.size();
            case "restore": return restore();
            case "writeEdition": return writeEdition(a);
            case "writeWells": return writeWells();
            case "lineAt":
                index(a >= 0 && a < line.length());
                return line.charAt(a);
            case "errorPosition":
                element(errorPosition != null);
                return errorPosition;
            case "failedCommand":
                element(failedCommand != null);
                return failedCommand;
            default: return ask(name, a, b);
        }
    }

    private long ask(String name, int a, int b) {
        switch (name) {
            case "ink":
                argument(a >= 0 && a <= 9);
                return now.wells[a];
            case "paper": return now.paper;
            case "hour": return now.hour;
            case "inkAfter": case "inkByHalvings":
                argument(a >= 0 && a <= 9 && b >= 0 && b <= 99);
                return inkAfter(a, b);
            case "hoursUntilLess": return hoursUntilLess(a, b);
            case "pressColour": return now.press;
            case "changeMinutes":
                argument(a >= 0 && a <= 9 && b >= 0 && b <= 9);
                return change(a, b);
            case "minutes": return now.minutes;
            case "poured": return now.poured;
            case "used": return now.used;
            case "faded": return now.faded;
            case "inkInWells": return sum(now.wells);
            case "isConsistent": return 1;
            case "fadedShare":
                arithmetic(now.poured != 0);
                return Float.floatToIntBits((float) now.faded / (float) now.poured);
            case "proofCount": return now.proofs.size();
            case "marksOf": return proof(a).marks();
            case "hourOf": return proof(a).hour();
            case "longestRise": case "riseByEnds": return rises()[0];
            case "riseCount": return rises()[1];
            default: return askEditions(name, a);
        }
    }

    private long askEditions(String name, int a) {
        switch (name) {
            case "editionCount": return now.editions.size();
            case "colourOf": return edition(a).colour();
            case "runOf": return edition(a).run();
            case "printedOf": return edition(a).printed();
            case "isComplete": return edition(a).missing() == 0 ? 1 : 0;
            case "fewestMinutes": case "minutesByOrders": return minutesOf(bestOrder());
            case "editionAt":
                element(a >= 0 && a < bestOrder().size());
                return bestOrder().get(a);
            case "shareOf": case "shareByLevel":
                edition(a);
                return shares()[a];
            case "editionByMissing": return byMissing(a);
            case "meanRun":
                arithmetic(!now.editions.isEmpty());
                int runs = now.editions.stream().mapToInt(Edition::run).sum();
                return Double.doubleToLongBits((double) runs / (double) now.editions.size());
            default: throw new AssertionError("no such call: " + name);
        }
    }

    private int modify(String name, int a, int b) {
        State before = now.copy();
        int answer = carryOut(name, a, b);
        remember(before);
        return answer;
    }

    private void remember(State before) {
        undos.addLast(before);
        if (undos.size() > 8) {
            undos.removeFirst();
        }
    }

    private int carryOut(String name, int a, int b) {
        switch (name) {
            case "addInk": return addInk(a, b);
            case "addPaper":
                argument(a >= 1 && a <= 999);
                state(now.paper + a <= 9999);
                now.paper += a;
                return now.paper;
            case "pass": return pass(a);
            case "addEdition":
                argument(a >= 0 && a <= 9 && b >= 1 && b <= 50);
                state(now.editions.size() < 7);
                now.editions.add(new Edition(a, b, 0));
                return now.editions.size() - 1;
            case "removeEdition":
                edition(a);
                now.editions.remove(a);
                return now.editions.size();
            case "print": return print(a);
            case "printAll": return printAll();
            case "addProof":
                argument(a >= 0 && a <= 99);
                state(now.proofs.size() < 12);
                now.proofs.add(new Proof(a, now.hour));
                return now.proofs.size() - 1;
            case "dropProof":
                proof(a);
                now.proofs.remove(a);
                return now.proofs.size();
            default: throw new AssertionError("no such modification: " + name);
        }
    }

    private int addInk(int colour, int units) {
        argument(colour >= 0 && colour <= 9 && units >= 1 && units <= 999);
        state(now.wells[colour] + units <= 999);
        now.wells[colour] += units;
        now.poured += units;
        return now.wells[colour];
    }

    private int pass(int hours) {
        argument(hours >= 1 && hours <= 48);
        int before = sum(now.wells);
        int[] after = new int[10];
        for (int colour = 0; colour < 10; colour++) {
            after[colour] = inkAfter(colour, hours);
        }
        now.wells = after;
        now.hour += hours;
        now.faded += before - sum(after);
        return before - sum(after);
    }

    private int inkAfter(int colour, int hours) {
        int ink = now.wells[colour];
        for (int hour = now.hour + 1; hour <= now.hour + hours; hour++) {
            ink = hour % (colour + 1) == 0 ? ink / 2 : ink;
        }
        return ink;
    }

    private int hoursUntilLess(int colour, int limit) {
        argument(colour >= 0 && colour <= 9 && limit >= 1 && limit <= 999);
        int hours = 0;
        while (inkAfter(colour, hours) >= limit) {
            hours++;
        }
        return hours;
    }

    private int print(int number) {
        Edition edition = edition(number);
        state(edition.missing() > 0);
        if (now.paper == 0 || now.wells[edition.colour()] == 0) {
            throw new UnsupportedOperationException();
        }
        return printCopies(number, Math.min(edition.missing(), now.paper));
    }

    private int printAll() {
        int[] shares = shares();
        int copies = 0;
        for (int number : bestOrder()) {
            if (shares[number] > 0 && now.wells[edition(number).colour()] > 0) {
                copies += printCopies(number, shares[number]);
            }
        }
        return copies;
    }

    private int printCopies(int number, int sheets) {
        Edition old = edition(number);
        int copies = Math.min(sheets, now.wells[old.colour()]);
        now.minutes += change(now.press, old.colour()) + copies;
        now.press = old.colour();
        now.paper -= copies;
        now.wells[old.colour()] -= copies;
        now.used += copies;
        now.editions.set(number, new Edition(old.colour(), old.run(), old.printed() + copies));
        return copies;
    }

    private static int change(int from, int to) {
        return from < to ? to - from : from > to ? (from - to) * 2 + 1 : 0;
    }

    private List<Integer> bestOrder() {
        List<Integer> open = new ArrayList<>();
        for (int number = 0; number < now.editions.size(); number++) {
            if (edition(number).missing() > 0) {
                open.add(number);
            }
        }
        List<List<Integer>> orders = new ArrayList<>();
        collectOrders(new ArrayList<>(), open, orders);
        List<Integer> best = orders.get(0);
        for (List<Integer> order : orders) {
            // The orders come with the lowest numbers first, so the first of several stays.
            if (minutesOf(order) < minutesOf(best)) {
                best = order;
            }
        }
        return best;
    }

    private static void collectOrders(List<Integer> begun, List<Integer> open,
            List<List<Integer>> orders) {
        if (begun.size() == open.size()) {
            orders.add(new ArrayList<>(begun));
        }
        for (Integer number : open) {
            if (!begun.contains(number)) {
                begun.add(number);
                collectOrders(begun, open, orders);
                begun.remove(begun.size() - 1);
            }
        }
    }

    private int minutesOf(List<Integer> order) {
        int minutes = 0;
        int colour = now.press;
        for (int number : order) {
            minutes += change(colour, edition(number).colour());
            colour = edition(number).colour();
        }
        return minutes;
    }

    private int[] shares() {
        int[] shares = new int[now.editions.size()];
        for (int sheet = 0; sheet < now.paper; sheet++) {
            int to = -1;
            for (int number = shares.length - 1; number >= 0; number--) {
                boolean wants = shares[number] < edition(number).missing();
                if (wants && (to < 0 || shares[number] <= shares[to])) {
                    to = number;
                }
            }
            if (to < 0) {
                return shares;
            }
            shares[to]++;
        }
        return shares;
    }

    private int byMissing(int rank) {
        element(rank >= 0 && rank < now.editions.size());
        List<Integer> numbers = new ArrayList<>();
        for (int number = 0; number < now.editions.size(); number++) {
            numbers.add(number);
        }
        numbers.sort(Comparator.comparingInt(number -> -edition(number).missing()));
        return numbers.get(rank);
    }

    /** The length of the longest rises and their number, from all choices of proofs. */
    private int[] rises() {
        int[] found = {0, 0};
        for (int choice = 0; choice < 1 << now.proofs.size(); choice++) {
            int length = Integer.bitCount(choice);
            if (isRise(choice) && length > found[0]) {
                found[0] = length;
                found[1] = 0;
            }
            if (isRise(choice) && length == found[0]) {
                found[1]++;
            }
        }
        return found;
    }

    private boolean isRise(int choice) {
        int last = -1;
        for (int number = 0; number < now.proofs.size(); number++) {
            if ((choice >> number & 1) == 1) {
                if (now.proofs.get(number).marks() <= last) {
                    return false;
                }
                last = now.proofs.get(number).marks();
            }
        }
        return true;
    }

    private int writeEdition(int number) {
        Edition edition = edition(number);
        line = number + "c" + edition.colour() + ":" + edition.printed() + "/" + edition.run();
        return line.length();
    }

    private int writeWells() {
        List<String> wells = new ArrayList<>();
        for (int ink : now.wells) {
            wells.add("" + ink);
        }
        line = String.join(" ", wells);
        return line.length();
    }

    private int type(char character) {
        argument(character >= 32 && character <= 126);
        state(text.length() < 60);
        text += character;
        return text.length();
    }

    private int execute() {
        String whole = text;
        text = "";
        if (!TEXT.matcher(whole).matches()) {
            errorPosition = errorPositionOf(whole);
            throw new IllegalArgumentException();
        }
        State before = now.copy();
        String[] commands = whole.split(";");
        for (int index = 0; index < commands.length; index++) {
            try {
                carryOutCommand(commands[index].split(" "));
            } catch (RuntimeException e) {
                now = before;
                failedCommand = index;
                throw new IllegalStateException();
            }
        }
        remember(before);
        return commands.length;
    }

    private static int errorPositionOf(String whole) {
        for (int length = 1; length <= whole.length(); length++) {
            Matcher matcher = TEXT.matcher(whole.substring(0, length));
            if (!matcher.matches() && !matcher.hitEnd()) {
                return length - 1;
            }
        }
        return whole.length();
    }

    private void carryOutCommand(String[] words) {
        int a = words.length > 1 ? Integer.parseInt(words[1]) : 0;
        int b = words.length > 2 ? Integer.parseInt(words[2]) : 0;
        String[] names = {"ink", "addInk", "paper", "addPaper", "edition", "addEdition", "remove",
            "removeEdition", "print", "print", "all", "printAll", "hours", "pass", "proof",
            "addProof", "drop", "dropProof"};
        for (int index = 0; index < names.length; index += 2) {
            if (names[index].equals(words[0])) {
                carryOut(names[index + 1], a, b);
                return;
            }
        }
        throw new AssertionError("no such command: " + words[0]);
    }

    private int undo() {
        state(!undos.isEmpty());
        now = undos.removeLast();
        return undos.size();
    }

    private int restore() {
        state(snapshot != null);
        now = snapshot.copy();
        undos.clear();
        return now.editions.size();
    }

    private Edition edition(int number) {
        index(number >= 0 && number < now.editions.size());
        return now.editions.get(number);
    }

    private Proof proof(int number) {
        index(number >= 0 && number < now.proofs.size());
        return now.proofs.get(number);
    }

    private static int sum(int[] row) {
        int sum = 0;
        for (int value : row) {
            sum += value;
        }
        return sum;
    }

    private static void argument(boolean holds) {
        if (!holds) {
            throw new IllegalArgumentException();
        }
    }

    private static void state(boolean holds) {
        if (!holds) {
            throw new IllegalStateException();
        }
    }

    private static void index(boolean holds) {
        if (!holds) {
            throw new IndexOutOfBoundsException();
        }
    }

    private static void element(boolean holds) {
        if (!holds) {
            throw new NoSuchElementException();
        }
    }

    private static void arithmetic(boolean holds) {
        if (!holds) {
            throw new ArithmeticException();
        }
    }
}
