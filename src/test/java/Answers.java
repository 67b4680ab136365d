import java.util.ArrayList;
import java.util.List;

/**
 * All that an object answers, call by call. Asking uses the object up: its modifications are
 * undone, its snapshot is restored and its text is executed, so that what they hold is seen too.
 */
final class Answers {
    private static final int MOST_CALLS = 430;
    private static final String[] STATE = {"paper", "hour", "pressColour", "minutes", "poured",
        "used", "faded", "inkInWells", "isConsistent", "fewestMinutes", "minutesByOrders",
        "longestRise", "riseByEnds", "riseCount", "meanRun", "fadedShare"};
    private static final String[] OF_EDITION = {"colourOf", "runOf", "printedOf", "isComplete",
        "shareOf", "shareByLevel", "editionAt", "editionByMissing"};
    private static final String[] IN_SHORT = {"paper", "hour", "minutes", "poured", "used", "faded",
        "editionCount", "proofCount"};

    private final InkPrintery x;
    private final List<String> answers = new ArrayList<>();

    private Answers(InkPrintery x) {
        this.x = x;
    }

    static List<String> everything(InkPrintery x) {
        Answers all = new Answers(x);
        all.askState();
        all.askLine();
        all.ask("errorPosition", 0);
        all.ask("failedCommand", 0);
        all.askUndos();
        all.ask("restore", 0);
        all.askState();
        all.askText();
        Check.due("an object has few enough calls", all.answers.size() <= MOST_CALLS, true);
        return all.answers;
    }

    /** Answers whether the call threw nothing. */
    private boolean ask(String name, int a) {
        String call = name + "(" + a + ") ";
        try {
            answers.add(call + Face.call(x, name, a, 1));
            return true;
        } catch (RuntimeException e) {
            answers.add(call + e.getClass().getSimpleName());
            return false;
        }
    }

    private void askState() {
        for (int colour = 0; colour < Fixtures.COLOURS; colour++) {
            ask("ink", colour);
        }
        for (String name : STATE) {
            ask(name, 0);
        }
        ask("editionCount", 0);
        for (int edition = 0; edition < x.editionCount(); edition++) {
            for (String name : OF_EDITION) {
                ask(name, edition);
            }
        }
        ask("proofCount", 0);
        for (int proof = 0; proof < x.proofCount(); proof++) {
            ask("marksOf", proof);
            ask("hourOf", proof);
        }
    }

    private void askLine() {
        int index = 0;
        while (index < 40 && ask("lineAt", index)) {
            index++;
        }
    }

    private void askUndos() {
        while (answers.size() <= MOST_CALLS && ask("undo", 0)) {
            for (String name : IN_SHORT) {
                ask(name, 0);
            }
        }
    }

    /** The text begun is "al", so that it is whole now; if not, the error tells where. */
    private void askText() {
        ask("type", 'l');
        ask("execute", 0);
        ask("errorPosition", 0);
        ask("minutes", 0);
    }
}
