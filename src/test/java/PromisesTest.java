import java.util.NoSuchElementException;
import java.util.function.LongSupplier;

/** At least one test for each promise of the document: ordinary inputs, edges and wrong inputs. */
public final class PromisesTest {
    private static final int LOWEST = Integer.MIN_VALUE;
    private static final int HIGHEST = Integer.MAX_VALUE;

    private PromisesTest() {
    }

    public static void main(String[] args) {
        inkPaperAndTime();
        editions();
        bestOrderAndShares();
        proofs();
        accounts();
        linesAndChecks();
        textUndoAndSnapshots();
        Check.end();
    }

    private static void inkPaperAndTime() {
        Check.test("promise 1: a new object", PromisesTest::newObject);
        Check.test("promise 2: addInk", PromisesTest::addInk);
        Check.test("promise 3: addPaper", PromisesTest::addPaper);
        Check.test("promise 4: pass", PromisesTest::pass);
        Check.test("promise 5: ink", PromisesTest::ink);
        Check.test("promise 6: paper", PromisesTest::paper);
        Check.test("promise 7: hour", PromisesTest::hour);
        Check.test("promise 8: inkAfter", PromisesTest::inkAfter);
        Check.test("promise 9: inkByHalvings", PromisesTest::inkByHalvings);
        Check.test("promise 10: hoursUntilLess", PromisesTest::hoursUntilLess);
    }

    private static void editions() {
        Check.test("promise 11: addEdition", PromisesTest::addEdition);
        Check.test("promise 12: removeEdition", PromisesTest::removeEdition);
        Check.test("promise 13: print", PromisesTest::print);
        Check.test("promise 13: print's exceptions", PromisesTest::printRefused);
        Check.test("promise 14: printAll", PromisesTest::printAll);
        Check.test("promise 14: printAll leaves out", PromisesTest::printAllLeavesOut);
        Check.test("promise 14: printAll's shares", PromisesTest::printAllShares);
        Check.test("promise 15: editionCount", PromisesTest::editionCount);
        Check.test("promise 16: colourOf", PromisesTest::colourOf);
        Check.test("promise 17: runOf", PromisesTest::runOf);
        Check.test("promise 18: printedOf", PromisesTest::printedOf);
        Check.test("promise 19: isComplete", PromisesTest::isComplete);
        Check.test("promise 20: changeMinutes", PromisesTest::changeMinutes);
        Check.test("promise 21: pressColour", PromisesTest::pressColour);
    }

    private static void bestOrderAndShares() {
        Check.test("promise 22: fewestMinutes", PromisesTest::fewestMinutes);
        Check.test("promise 23: minutesByOrders", PromisesTest::minutesByOrders);
        Check.test("promise 24: editionAt", PromisesTest::editionAt);
        Check.test("promise 25: shareOf", PromisesTest::shareOf);
        Check.test("promise 26: shareByLevel", PromisesTest::shareByLevel);
        Check.test("promise 27: editionByMissing", PromisesTest::editionByMissing);
    }

    private static void proofs() {
        Check.test("promise 28: addProof", PromisesTest::addProof);
        Check.test("promise 29: dropProof", PromisesTest::dropProof);
        Check.test("promise 30: proofCount", PromisesTest::proofCount);
        Check.test("promise 31: marksOf", PromisesTest::marksOf);
        Check.test("promise 32: hourOf", PromisesTest::hourOf);
        Check.test("promise 33: longestRise", PromisesTest::longestRise);
        Check.test("promise 34: riseByEnds", PromisesTest::riseByEnds);
        Check.test("promise 35: riseCount", PromisesTest::riseCount);
    }

    private static void accounts() {
        Check.test("promise 36: minutes", PromisesTest::minutes);
        Check.test("promise 37: poured", PromisesTest::poured);
        Check.test("promise 38: used", PromisesTest::used);
        Check.test("promise 39: faded", PromisesTest::faded);
        Check.test("promise 40: inkInWells", PromisesTest::inkInWells);
        Check.test("promise 41: meanRun", PromisesTest::meanRun);
        Check.test("promise 42: fadedShare", PromisesTest::fadedShare);
    }

    private static void linesAndChecks() {
        Check.test("promise 43: writeEdition", PromisesTest::writeEdition);
        Check.test("promise 44: writeWells", PromisesTest::writeWells);
        Check.test("promise 45: lineAt", PromisesTest::lineAt);
        Check.test("promise 46: isConsistent", PromisesTest::isConsistent);
    }

    private static void textUndoAndSnapshots() {
        Check.test("promise 47: type", PromisesTest::type);
        Check.test("promise 48: execute", PromisesTest::execute);
        Check.test("promise 48: execute's commands", PromisesTest::executeEachCommand);
        Check.test("promise 48: execute all or none", PromisesTest::executeAllOrNone);
        Check.test("promise 49: errorPosition", PromisesTest::errorPosition);
        Check.test("promise 50: failedCommand", PromisesTest::failedCommand);
        Check.test("promise 51: undo", PromisesTest::undo);
        Check.test("promise 51: undo of each modification", PromisesTest::undoEachModification);
        Check.test("promise 51: at most 8", PromisesTest::undoAtMostEight);
        Check.test("promise 51: refused calls are no modifications", PromisesTest::undoNoRefused);
        Check.test("promise 52: save", PromisesTest::save);
        Check.test("promise 53: restore", PromisesTest::restore);
    }

    private static void newObject() {
        InkPrintery x = Fixtures.fresh();
        Check.due("state", Fixtures.state(x),
                "0 0 0 0 0 0 0 0 0 0 paper 0 hour 0 press 0 minutes 0 poured 0 used 0 faded 0");
        Check.due("editionCount()", x.editionCount(), 0);
        Check.due("proofCount()", x.proofCount(), 0);
        Check.refused("undo()", Check.STATE, x::undo);
        Check.refused("restore()", Check.STATE, x::restore);
        Check.refused("lineAt(0)", Check.INDEX, () -> x.lineAt(0));
        Check.due("type('a')", x.type('a'), 1);
    }

    /** A refused call leaves the state as it was. */
    private static void refusedOf(InkPrintery x, String call,
            Class<? extends RuntimeException> due, LongSupplier body) {
        String before = Fixtures.state(x);
        Check.refused(call, due, body);
        Check.due("state after " + call, Fixtures.state(x), before);
    }

    private static void addInk() {
        InkPrintery x = Fixtures.fresh();
        Check.due("addInk(3, 1)", x.addInk(3, 1), 1);
        Check.due("addInk(3, 997)", x.addInk(3, 997), 998);
        refusedOf(x, "addInk(3, 2)", Check.STATE, () -> x.addInk(3, 2));
        Check.due("addInk(3, 1) again", x.addInk(3, 1), 999);
        Check.due("addInk(0, 999)", x.addInk(0, 999), 999);
        Check.due("addInk(9, 5)", x.addInk(9, 5), 5);
        Check.due("ink(9)", x.ink(9), 5);
        Check.due("poured()", x.poured(), 999 + 999 + 5);
        for (int colour : new int[] {-1, 10, LOWEST, HIGHEST}) {
            refusedOf(x, "addInk(" + colour + ", 1)", Check.ARGUMENT, () -> x.addInk(colour, 1));
        }
        for (int units : new int[] {0, 1000, -1, LOWEST, HIGHEST}) {
            // The well is full: the exception that is documented first is thrown.
            refusedOf(x, "addInk(0, " + units + ")", Check.ARGUMENT, () -> x.addInk(0, units));
        }
    }

    private static void addPaper() {
        InkPrintery x = Fixtures.fresh();
        Check.due("addPaper(1)", x.addPaper(1), 1);
        for (int bought = 0; bought < 10; bought++) {
            Check.due("addPaper(999)", x.addPaper(999), 1 + 999 * (bought + 1));
        }
        refusedOf(x, "addPaper(9)", Check.STATE, () -> x.addPaper(9));
        Check.due("addPaper(8)", x.addPaper(8), 9999);
        refusedOf(x, "addPaper(1)", Check.STATE, () -> x.addPaper(1));
        for (int sheets : new int[] {0, 1000, -1, LOWEST, HIGHEST}) {
            refusedOf(x, "addPaper(" + sheets + ")", Check.ARGUMENT, () -> x.addPaper(sheets));
        }
    }

    private static void pass() {
        InkPrintery x = Fixtures.fresh();
        Check.due("pass(1) without ink", x.pass(1), 0);
        for (int colour = 0; colour < Fixtures.COLOURS; colour++) {
            x.addInk(colour, 101);
        }
        // Hour 2 halves the colours 0 and 1; hour 3 the colours 0 and 2.
        Check.due("pass(1)", x.pass(1), 51 + 51);
        Check.due("pass(1)", x.pass(1), 25 + 51);
        Check.due("ink(0)", x.ink(0), 25);
        Check.due("ink(1)", x.ink(1), 50);
        Check.due("ink(2)", x.ink(2), 50);
        Check.due("ink(3)", x.ink(3), 101);
        // Up to hour 10: colour 0 seven times, 1 four times, 2, 3 and 4 twice, the others once.
        Check.due("pass(7)", x.pass(7), 25 + (50 - 3) + (50 - 12) + 2 * (101 - 25) + 5 * 51);
        Check.due("ink(9)", x.ink(9), 50);
        Check.due("faded()", x.faded(), 102 + 76 + 25 + 47 + 38 + 152 + 255);
        Check.due("pass(48)", x.pass(48), x.poured() - x.inkInWells() - 695);
        Check.due("hour()", x.hour(), 58);
        for (int hours : new int[] {0, 49, -1, LOWEST, HIGHEST}) {
            refusedOf(x, "pass(" + hours + ")", Check.ARGUMENT, () -> x.pass(hours));
        }
    }

    private static void ink() {
        InkPrintery x = Fixtures.busy();
        int[] due = {100, 0, 100, 0, 0, 30, 0, 0, 0, 4};
        for (int colour = 0; colour < Fixtures.COLOURS; colour++) {
            Check.due("ink(" + colour + ")", x.ink(colour), due[colour]);
        }
        for (int colour : new int[] {-1, 10, LOWEST, HIGHEST}) {
            refusedOf(x, "ink(" + colour + ")", Check.ARGUMENT, () -> x.ink(colour));
        }
    }

    private static void paper() {
        InkPrintery x = Fixtures.busy();
        Check.due("paper()", x.paper(), 40);
        x.print(3);
        Check.due("paper() after print", x.paper(), 37);
        x.addPaper(999);
        Check.due("paper() after addPaper", x.paper(), 1036);
    }

    private static void hour() {
        InkPrintery x = Fixtures.fresh();
        Check.due("hour()", x.hour(), 0);
        x.pass(48);
        x.pass(1);
        Check.due("hour() after 49 hours", x.hour(), 49);
        x.undo();
        Check.due("hour() after undo", x.hour(), 48);
    }

    private static void inkAfter() {
        inkLeft("inkAfter", InkPrintery::inkAfter);
    }

    private static void inkByHalvings() {
        inkLeft("inkByHalvings", InkPrintery::inkByHalvings);
    }

    private interface InkLeft {
        int of(InkPrintery x, int colour, int hours);
    }

    private static void inkLeft(String name, InkLeft left) {
        InkPrintery x = Fixtures.fresh();
        x.addInk(0, 999);
        x.addInk(1, 999);
        x.addInk(9, 999);
        Check.due(name + "(1, 0)", left.of(x, 1, 0), 999);
        Check.due(name + "(1, 1)", left.of(x, 1, 1), 999);
        Check.due(name + "(1, 2)", left.of(x, 1, 2), 499);
        Check.due(name + "(1, 5)", left.of(x, 1, 5), 249);
        Check.due(name + "(9, 89)", left.of(x, 9, 89), 3);
        Check.due(name + "(9, 90)", left.of(x, 9, 90), 1);
        Check.due(name + "(0, 9)", left.of(x, 0, 9), 1);
        Check.due(name + "(0, 10)", left.of(x, 0, 10), 0);
        Check.due(name + "(3, 50)", left.of(x, 3, 50), 0);
        for (int hours = 31; hours <= 99; hours++) {
            Check.due(name + "(0, " + hours + ")", left.of(x, 0, hours), 0);
        }
        x.pass(9);
        x.addInk(1, 500);
        Check.due(name + "(9, 0) in hour 9", left.of(x, 9, 0), 999);
        Check.due(name + "(9, 1) in hour 9", left.of(x, 9, 1), 499);
        Check.due(name + "(9, 11) in hour 9", left.of(x, 9, 11), 249);
        Check.due(name + "(1, 1) in hour 9", left.of(x, 1, 1), 281);
        for (int wrong : new int[] {-1, 10, LOWEST, HIGHEST}) {
            refusedOf(x, name + "(" + wrong + ", 1)", Check.ARGUMENT, () -> left.of(x, wrong, 1));
        }
        for (int wrong : new int[] {-1, 100, LOWEST, HIGHEST}) {
            refusedOf(x, name + "(1, " + wrong + ")", Check.ARGUMENT, () -> left.of(x, 1, wrong));
        }
    }

    private static void hoursUntilLess() {
        InkPrintery x = Fixtures.fresh();
        Check.due("hoursUntilLess(4, 1) without ink", x.hoursUntilLess(4, 1), 0);
        x.addInk(1, 999);
        x.addInk(4, 600);
        x.addInk(9, 999);
        Check.due("hoursUntilLess(1, 999)", x.hoursUntilLess(1, 999), 2);
        Check.due("hoursUntilLess(1, 499)", x.hoursUntilLess(1, 499), 4);
        Check.due("hoursUntilLess(4, 601)", x.hoursUntilLess(4, 601), 0);
        Check.due("hoursUntilLess(4, 600)", x.hoursUntilLess(4, 600), 5);
        Check.due("hoursUntilLess(4, 1)", x.hoursUntilLess(4, 1), 50);
        Check.due("hoursUntilLess(9, 1)", x.hoursUntilLess(9, 1), 100);
        x.pass(3);
        Check.due("hoursUntilLess(4, 600) in hour 3", x.hoursUntilLess(4, 600), 2);
        Check.due("hoursUntilLess(9, 2) in hour 3", x.hoursUntilLess(9, 2), 87);
        for (int wrong : new int[] {-1, 10, LOWEST, HIGHEST}) {
            refusedOf(x, "hoursUntilLess(" + wrong + ", 1)", Check.ARGUMENT,
                    () -> x.hoursUntilLess(wrong, 1));
        }
        for (int wrong : new int[] {0, 1000, -1, LOWEST, HIGHEST}) {
            refusedOf(x, "hoursUntilLess(1, " + wrong + ")", Check.ARGUMENT,
                    () -> x.hoursUntilLess(1, wrong));
        }
    }

    private static void addEdition() {
        InkPrintery x = Fixtures.fresh();
        Check.due("addEdition(0, 1)", x.addEdition(0, 1), 0);
        Check.due("addEdition(9, 50)", x.addEdition(9, 50), 1);
        for (int edition = 2; edition < 7; edition++) {
            Check.due("addEdition(4, 2)", x.addEdition(4, 2), edition);
        }
        Check.due("writeEdition(1)", Fixtures.line(x, x.writeEdition(1)), "1c9:0/50");
        refusedOf(x, "addEdition(4, 2) as the eighth", Check.STATE, () -> x.addEdition(4, 2));
        InkPrintery y = Fixtures.fresh();
        for (int wrong : new int[] {-1, 10, LOWEST, HIGHEST}) {
            refusedOf(y, "addEdition(" + wrong + ", 1)", Check.ARGUMENT, () -> y.addEdition(wrong, 1));
        }
        InkPrintery z = Fixtures.fresh();
        for (int wrong : new int[] {0, 51, -1, LOWEST, HIGHEST}) {
            refusedOf(z, "addEdition(1, " + wrong + ")", Check.ARGUMENT, () -> z.addEdition(1, wrong));
        }
    }

    private static void removeEdition() {
        InkPrintery x = Fixtures.busy();
        x.print(3);
        for (int wrong : new int[] {-1, 5, LOWEST, HIGHEST}) {
            refusedOf(x, "removeEdition(" + wrong + ")", Check.INDEX, () -> x.removeEdition(wrong));
        }
        Check.due("removeEdition(1)", x.removeEdition(1), 4);
        Check.due("edition 0", Fixtures.line(x, x.writeEdition(0)), "0c5:0/20");
        Check.due("edition 1", Fixtures.line(x, x.writeEdition(1)), "1c9:0/30");
        Check.due("edition 2", Fixtures.line(x, x.writeEdition(2)), "2c2:3/3");
        Check.due("edition 3", Fixtures.line(x, x.writeEdition(3)), "3c0:0/15");
        Check.due("removeEdition(3)", x.removeEdition(3), 3);
        refusedOf(x, "removeEdition(3) again", Check.INDEX, () -> x.removeEdition(3));
        Check.due("used() is kept", x.used(), 3);
        Check.due("addEdition(7, 7)", x.addEdition(7, 7), 3);
        Check.due("edition 3", Fixtures.line(x, x.writeEdition(3)), "3c7:0/7");
        for (int left = 3; left >= 0; left--) {
            Check.due("removeEdition(0)", x.removeEdition(0), left);
        }
        refusedOf(x, "removeEdition(0) without editions", Check.INDEX, () -> x.removeEdition(0));
    }

    private static void print() {
        InkPrintery x = Fixtures.busy();
        Check.due("print(1)", x.print(1), 10);
        Check.due("pressColour()", x.pressColour(), 2);
        Check.due("minutes()", x.minutes(), 2 + 10);
        Check.due("paper()", x.paper(), 30);
        Check.due("ink(2)", x.ink(2), 90);
        Check.due("used()", x.used(), 10);
        Check.due("printedOf(1)", x.printedOf(1), 10);
        // The ink ends first.
        Check.due("print(2)", x.print(2), 4);
        Check.due("ink(9)", x.ink(9), 0);
        Check.due("minutes()", x.minutes(), 12 + 7 + 4);
        // Back to a smaller colour.
        Check.due("print(4)", x.print(4), 15);
        Check.due("minutes()", x.minutes(), 23 + 19 + 15);
        // The paper ends first.
        Check.due("print(0)", x.print(0), 11);
        Check.due("paper()", x.paper(), 0);
        Check.due("printedOf(0)", x.printedOf(0), 11);
        Check.due("used()", x.used(), 40);
    }

    private static void printRefused() {
        InkPrintery x = Fixtures.fresh();
        x.addEdition(3, 2);
        x.addEdition(4, 5);
        for (int wrong : new int[] {-1, 2, LOWEST, HIGHEST}) {
            refusedOf(x, "print(" + wrong + ")", Check.INDEX, () -> x.print(wrong));
        }
        refusedOf(x, "print(0) without paper and ink", Check.UNSUPPORTED, () -> x.print(0));
        x.addInk(3, 2);
        refusedOf(x, "print(0) without paper", Check.UNSUPPORTED, () -> x.print(0));
        x.addPaper(2);
        refusedOf(x, "print(1) without ink", Check.UNSUPPORTED, () -> x.print(1));
        Check.due("print(0)", x.print(0), 2);
        // Neither paper nor ink is left, but that it is complete is documented first.
        refusedOf(x, "print(0) complete", Check.STATE, () -> x.print(0));
    }

    private static void printAll() {
        InkPrintery x = Fixtures.busy();
        x.print(1);
        // In the order 3 (3 copies), 0 (9), 2 (4 for want of ink), 4 (9).
        Check.due("printAll()", x.printAll(), 25);
        Check.due("state", Fixtures.state(x), "91 0 87 0 0 21 0 0 0 0 paper 5 hour 0 press 9"
                + " minutes 51 poured 234 used 35 faded 0 e5:9/20 e2:10/10 e9:4/30 e2:3/3 e0:9/15");
        InkPrintery empty = Fixtures.fresh();
        Check.due("printAll() without editions", empty.printAll(), 0);
        Check.due("undo() of it", empty.undo(), 0);
    }

    private static void printAllLeavesOut() {
        InkPrintery x = Fixtures.fresh();
        x.addInk(7, 3);
        x.addPaper(100);
        x.addEdition(9, 5);
        x.addEdition(7, 2);
        x.addEdition(7, 4);
        x.addEdition(7, 1);
        // Only the well 7 has ink, and of its three editions the last one gets none.
        Check.due("printAll()", x.printAll(), 3);
        Check.due("state", Fixtures.state(x), "0 0 0 0 0 0 0 0 0 0 paper 97 hour 0 press 7"
                + " minutes 10 poured 3 used 3 faded 0 e9:0/5 e7:2/2 e7:1/4 e7:0/1");
        InkPrintery y = Fixtures.fresh();
        y.addInk(2, 9);
        y.addInk(4, 9);
        y.addPaper(1);
        y.addEdition(4, 3);
        y.addEdition(2, 3);
        // The only sheet is the share of edition 0, although edition 1 comes first.
        Check.due("printAll() with a sheet", y.printAll(), 1);
        Check.due("printedOf(0)", y.printedOf(0), 1);
        Check.due("minutes()", y.minutes(), 5);
        Check.due("printAll() without paper", y.printAll(), 0);
        Check.due("pressColour()", y.pressColour(), 4);
    }

    private static void printAllShares() {
        InkPrintery x = Fixtures.fresh();
        x.addInk(0, 1);
        x.addInk(1, 50);
        x.addPaper(20);
        x.addEdition(0, 50);
        x.addEdition(1, 50);
        // What edition 0 leaves of its share is not dealt out again.
        Check.due("printAll()", x.printAll(), 11);
        Check.due("printedOf(1)", x.printedOf(1), 10);
        Check.due("paper()", x.paper(), 9);
        x.removeEdition(0);
        Check.due("printAll() again", x.printAll(), 9);
        Check.due("paper()", x.paper(), 0);
    }

    private static void editionCount() {
        InkPrintery x = Fixtures.fresh();
        for (int edition = 0; edition < 7; edition++) {
            Check.due("editionCount()", x.editionCount(), edition);
            x.addEdition(edition, 1);
        }
        Check.due("editionCount()", x.editionCount(), 7);
        x.removeEdition(6);
        Check.due("editionCount()", x.editionCount(), 6);
    }

    private static void colourOf() {
        InkPrintery x = Fixtures.busy();
        int[] due = {5, 2, 9, 2, 0};
        for (int edition = 0; edition < due.length; edition++) {
            Check.due("colourOf(" + edition + ")", x.colourOf(edition), due[edition]);
        }
        for (int wrong : new int[] {-1, 5, 7, LOWEST, HIGHEST}) {
            refusedOf(x, "colourOf(" + wrong + ")", Check.INDEX, () -> x.colourOf(wrong));
        }
    }

    private static void runOf() {
        InkPrintery x = Fixtures.busy();
        x.print(0);
        int[] due = {20, 10, 30, 3, 15};
        for (int edition = 0; edition < due.length; edition++) {
            Check.due("runOf(" + edition + ")", x.runOf(edition), due[edition]);
        }
        for (int wrong : new int[] {-1, 5, 7, LOWEST, HIGHEST}) {
            refusedOf(x, "runOf(" + wrong + ")", Check.INDEX, () -> x.runOf(wrong));
        }
    }

    private static void printedOf() {
        InkPrintery x = Fixtures.busy();
        x.print(2);
        x.print(3);
        int[] due = {0, 0, 4, 3, 0};
        for (int edition = 0; edition < due.length; edition++) {
            Check.due("printedOf(" + edition + ")", x.printedOf(edition), due[edition]);
        }
        for (int wrong : new int[] {-1, 5, 7, LOWEST, HIGHEST}) {
            refusedOf(x, "printedOf(" + wrong + ")", Check.INDEX, () -> x.printedOf(wrong));
        }
    }

    private static void isComplete() {
        InkPrintery x = Fixtures.busy();
        x.print(2);
        x.print(3);
        boolean[] due = {false, false, false, true, false};
        for (int edition = 0; edition < due.length; edition++) {
            Check.due("isComplete(" + edition + ")", x.isComplete(edition), due[edition]);
        }
        for (int wrong : new int[] {-1, 5, 7, LOWEST, HIGHEST}) {
            refusedOf(x, "isComplete(" + wrong + ")", Check.INDEX, () -> x.isComplete(wrong) ? 1 : 0);
        }
    }

    private static void changeMinutes() {
        InkPrintery x = Fixtures.fresh();
        for (int from = 0; from < Fixtures.COLOURS; from++) {
            for (int to = 0; to < Fixtures.COLOURS; to++) {
                int due = to - from;
                if (to < from) {
                    due = (from - to) * 2 + 1;
                }
                Check.due("changeMinutes(" + from + ", " + to + ")", x.changeMinutes(from, to), due);
            }
        }
        for (int wrong : new int[] {-1, 10, LOWEST, HIGHEST}) {
            refusedOf(x, "changeMinutes(" + wrong + ", 0)", Check.ARGUMENT,
                    () -> x.changeMinutes(wrong, 0));
            refusedOf(x, "changeMinutes(0, " + wrong + ")", Check.ARGUMENT,
                    () -> x.changeMinutes(0, wrong));
        }
    }

    private static void pressColour() {
        InkPrintery x = Fixtures.busy();
        x.print(0);
        Check.due("pressColour()", x.pressColour(), 5);
        x.print(3);
        Check.due("pressColour()", x.pressColour(), 2);
        x.undo();
        Check.due("pressColour() after undo", x.pressColour(), 5);
    }

    private interface Minutes {
        int of(InkPrintery x);
    }

    private static void fewestMinutes() {
        minutesOfBestOrder("fewestMinutes()", InkPrintery::fewestMinutes);
    }

    private static void minutesByOrders() {
        minutesOfBestOrder("minutesByOrders()", InkPrintery::minutesByOrders);
    }

    private static void minutesOfBestOrder(String name, Minutes minutes) {
        Check.due(name + " without editions", minutes.of(Fixtures.fresh()), 0);
        InkPrintery x = Fixtures.busy();
        Check.due(name, minutes.of(x), 9);
        x.print(1);
        // 2, 5, 9, then back to 0: 3 + 4 + 19 is more than 2, 0, 5, 9: 5 + 5 + 4.
        Check.due(name + " from colour 2", minutes.of(x), 14);
        InkPrintery y = Fixtures.fresh();
        y.addInk(8, 1);
        y.addPaper(1);
        y.addEdition(8, 1);
        y.print(0);
        Check.due(name + " with a complete edition", minutes.of(y), 0);
        y.addEdition(7, 1);
        y.addEdition(9, 1);
        // 9 first: 1 + 5; 7 first: 3 + 2.
        Check.due(name + " from colour 8", minutes.of(y), 5);
        InkPrintery z = Fixtures.fresh();
        for (int edition = 0; edition < 7; edition++) {
            z.addEdition(9 - edition, 1);
        }
        Check.due(name + " of seven", minutes.of(z), 9);
    }

    private static String order(InkPrintery x) {
        StringBuilder order = new StringBuilder();
        for (int position = 0; position <= 7; position++) {
            try {
                order.append(x.editionAt(position));
            } catch (NoSuchElementException e) {
                return order.toString();
            }
        }
        return order + " without an end";
    }

    private static void editionAt() {
        InkPrintery x = Fixtures.busy();
        Check.due("order", order(x), "41302");
        x.print(1);
        Check.due("order from colour 2", order(x), "3402");
        for (int wrong : new int[] {-1, 4, 7, LOWEST, HIGHEST}) {
            refusedOf(x, "editionAt(" + wrong + ")", Check.ELEMENT, () -> x.editionAt(wrong));
        }
        InkPrintery y = Fixtures.fresh();
        refusedOf(y, "editionAt(0) without editions", Check.ELEMENT, () -> y.editionAt(0));
        y.addEdition(2, 1);
        y.addEdition(1, 1);
        y.addEdition(2, 1);
        y.addEdition(1, 1);
        Check.due("order of equal colours", order(y), "1302");
        InkPrintery z = Fixtures.fresh();
        z.addInk(3, 1);
        z.addPaper(1);
        z.addEdition(3, 1);
        z.print(0);
        z.addEdition(5, 1);
        z.addEdition(2, 1);
        // From 3 to 5 and 2: 2 + 7; to 2 and 5: 3 + 3.
        Check.due("order from colour 3", order(z), "21");
        InkPrintery w = Fixtures.fresh();
        w.addInk(1, 1);
        w.addPaper(1);
        w.addEdition(1, 1);
        w.print(0);
        w.addEdition(4, 1);
        w.addEdition(0, 1);
        w.addEdition(0, 1);
        // From 1: to 0, 0, 4 takes 3 + 0 + 4; to 4, 0, 0 takes 3 + 9 + 0.
        Check.due("order from colour 1", order(w), "231");
        orderOfEqualMinutes();
    }

    private static void orderOfEqualMinutes() {
        InkPrintery x = Fixtures.fresh();
        x.addInk(2, 1);
        x.addPaper(1);
        x.addEdition(2, 1);
        x.print(0);
        x.addEdition(4, 1);
        x.addEdition(1, 1);
        // From 2: 4 and 1 take 2 + 7, 1 and 4 take 3 + 3.
        Check.due("order", order(x), "21");
        InkPrintery y = Fixtures.fresh();
        y.addInk(4, 1);
        y.addPaper(1);
        y.addEdition(4, 1);
        y.print(0);
        y.addEdition(5, 1);
        y.addEdition(3, 1);
        // From 4: 5 and 3 take 1 + 5, 3 and 5 take 3 + 2.
        Check.due("fewestMinutes()", y.fewestMinutes(), 5);
        Check.due("order", order(y), "21");
        InkPrintery z = Fixtures.fresh();
        z.addInk(9, 1);
        z.addPaper(1);
        z.addEdition(9, 1);
        z.print(0);
        z.removeEdition(0);
        z.addEdition(7, 1);
        z.addEdition(8, 1);
        z.addEdition(7, 1);
        // From 9: 7, 7, 8 takes 5 + 0 + 1, 8, 7, 7 takes 3 + 3 + 0: as many, so 0 comes first.
        Check.due("fewestMinutes()", z.fewestMinutes(), 6);
        Check.due("order of as many minutes", order(z), "021");
        z.removeEdition(0);
        z.addEdition(7, 1);
        Check.due("order of as many minutes", order(z), "012");
    }

    private interface Share {
        int of(InkPrintery x, int edition);
    }

    private static void shareOf() {
        sharesOfPaper("shareOf", InkPrintery::shareOf);
    }

    private static void shareByLevel() {
        sharesOfPaper("shareByLevel", InkPrintery::shareByLevel);
    }

    private static void sharesOfPaper(String name, Share share) {
        InkPrintery x = Fixtures.busy();
        sharesDue(name, share, x, 10, 9, 9, 3, 9);
        x.addPaper(37);
        sharesDue(name, share, x, 20, 10, 29, 3, 15);
        x.addPaper(1);
        sharesDue(name, share, x, 20, 10, 30, 3, 15);
        x.addPaper(999);
        sharesDue(name, share, x, 20, 10, 30, 3, 15);
        x.print(3);
        x.print(2);
        sharesDue(name, share, x, 20, 10, 26, 0, 15);
        for (int wrong : new int[] {-1, 5, 7, LOWEST, HIGHEST}) {
            refusedOf(x, name + "(" + wrong + ")", Check.INDEX, () -> share.of(x, wrong));
        }
        InkPrintery y = Fixtures.fresh();
        for (int edition = 0; edition < 7; edition++) {
            y.addEdition(edition, 50);
        }
        sharesDue(name, share, y, 0, 0, 0, 0, 0, 0, 0);
        y.addPaper(3);
        sharesDue(name, share, y, 1, 1, 1, 0, 0, 0, 0);
        y.addPaper(7);
        sharesDue(name, share, y, 2, 2, 2, 1, 1, 1, 1);
        y.addPaper(339);
        sharesDue(name, share, y, 50, 50, 50, 50, 50, 50, 49);
        y.addPaper(1);
        sharesDue(name, share, y, 50, 50, 50, 50, 50, 50, 50);
    }

    private static void sharesDue(String name, Share share, InkPrintery x, int... due) {
        for (int edition = 0; edition < due.length; edition++) {
            String call = name + "(" + edition + ") with " + x.paper() + " sheets";
            Check.due(call, share.of(x, edition), due[edition]);
        }
    }

    private static void editionByMissing() {
        InkPrintery x = Fixtures.busy();
        Check.refused("editionByMissing(5)", Check.ELEMENT, () -> x.editionByMissing(5));
        ranksDue(x, 2, 0, 4, 1, 3);
        x.print(0);
        x.print(1);
        // Editions 0 and 1 are complete and come last, by their numbers.
        ranksDue(x, 2, 4, 3, 0, 1);
        x.addEdition(7, 15);
        ranksDue(x, 2, 4, 5, 3, 0, 1);
        for (int wrong : new int[] {-1, 6, 7, LOWEST, HIGHEST}) {
            refusedOf(x, "editionByMissing(" + wrong + ")", Check.ELEMENT,
                    () -> x.editionByMissing(wrong));
        }
        InkPrintery y = Fixtures.fresh();
        refusedOf(y, "editionByMissing(0)", Check.ELEMENT, () -> y.editionByMissing(0));
    }

    private static void ranksDue(InkPrintery x, int... due) {
        for (int rank = 0; rank < due.length; rank++) {
            Check.due("editionByMissing(" + rank + ")", x.editionByMissing(rank), due[rank]);
        }
    }

    private static void addProof() {
        InkPrintery x = Fixtures.fresh();
        Check.due("addProof(0)", x.addProof(0), 0);
        Check.due("addProof(99)", x.addProof(99), 1);
        for (int proof = 2; proof < 12; proof++) {
            Check.due("addProof(5)", x.addProof(5), proof);
        }
        refusedOf(x, "addProof(5) as the 13th", Check.STATE, () -> x.addProof(5));
        InkPrintery y = Fixtures.withProofs(5);
        for (int wrong : new int[] {-1, 100, LOWEST, HIGHEST}) {
            refusedOf(y, "addProof(" + wrong + ")", Check.ARGUMENT, () -> y.addProof(wrong));
        }
    }

    private static void dropProof() {
        InkPrintery x = Fixtures.fresh();
        x.addProof(10);
        x.pass(1);
        x.addProof(20);
        x.pass(1);
        x.addProof(30);
        for (int wrong : new int[] {-1, 3, 12, LOWEST, HIGHEST}) {
            refusedOf(x, "dropProof(" + wrong + ")", Check.INDEX, () -> x.dropProof(wrong));
        }
        Check.due("dropProof(1)", x.dropProof(1), 2);
        Check.due("marksOf(0)", x.marksOf(0), 10);
        Check.due("marksOf(1)", x.marksOf(1), 30);
        Check.due("hourOf(1)", x.hourOf(1), 2);
        refusedOf(x, "dropProof(2)", Check.INDEX, () -> x.dropProof(2));
        Check.due("dropProof(0)", x.dropProof(0), 1);
        Check.due("dropProof(0)", x.dropProof(0), 0);
        refusedOf(x, "dropProof(0)", Check.INDEX, () -> x.dropProof(0));
    }

    private static void proofCount() {
        InkPrintery x = Fixtures.fresh();
        for (int proof = 0; proof < 12; proof++) {
            Check.due("proofCount()", x.proofCount(), proof);
            x.addProof(proof);
        }
        Check.due("proofCount()", x.proofCount(), 12);
        x.dropProof(11);
        Check.due("proofCount()", x.proofCount(), 11);
    }

    private static void marksOf() {
        InkPrintery x = Fixtures.withProofs(7, 99, 0);
        Check.due("marksOf(0)", x.marksOf(0), 7);
        Check.due("marksOf(1)", x.marksOf(1), 99);
        Check.due("marksOf(2)", x.marksOf(2), 0);
        for (int wrong : new int[] {-1, 3, 12, LOWEST, HIGHEST}) {
            refusedOf(x, "marksOf(" + wrong + ")", Check.INDEX, () -> x.marksOf(wrong));
        }
    }

    private static void hourOf() {
        InkPrintery x = Fixtures.withProofs(7);
        x.pass(48);
        x.addProof(1);
        x.pass(2);
        x.addProof(1);
        x.pass(1);
        Check.due("hourOf(0)", x.hourOf(0), 0);
        Check.due("hourOf(1)", x.hourOf(1), 48);
        Check.due("hourOf(2)", x.hourOf(2), 50);
        for (int wrong : new int[] {-1, 3, 12, LOWEST, HIGHEST}) {
            refusedOf(x, "hourOf(" + wrong + ")", Check.INDEX, () -> x.hourOf(wrong));
        }
    }

    private static void longestRise() {
        Check.due("longestRise() without proofs", Fixtures.fresh().longestRise(), 0);
        Check.due("longestRise()", Fixtures.withProofs(0).longestRise(), 1);
        Check.due("longestRise()", Fixtures.withProofs(4, 4, 4).longestRise(), 1);
        Check.due("longestRise()", Fixtures.withProofs(5, 3, 4, 9, 4, 6).longestRise(), 3);
        Check.due("longestRise()", Fixtures.withProofs(9, 8, 7, 6).longestRise(), 1);
        Check.due("longestRise()", Fixtures.withProofs(50, 60, 10, 20, 30, 70, 65).longestRise(), 4);
        int[] all = {0, 1, 2, 3, 4, 5, 6, 7, 8, 9, 10, 99};
        Check.due("longestRise()", Fixtures.withProofs(all).longestRise(), 12);
    }

    private static void riseByEnds() {
        Check.due("riseByEnds() without proofs", Fixtures.fresh().riseByEnds(), 0);
        Check.due("riseByEnds()", Fixtures.withProofs(0).riseByEnds(), 1);
        Check.due("riseByEnds()", Fixtures.withProofs(4, 4, 4).riseByEnds(), 1);
        Check.due("riseByEnds()", Fixtures.withProofs(5, 3, 4, 9, 4, 6).riseByEnds(), 3);
        Check.due("riseByEnds()", Fixtures.withProofs(9, 8, 7, 6).riseByEnds(), 1);
        Check.due("riseByEnds()", Fixtures.withProofs(50, 60, 10, 20, 30, 70, 65).riseByEnds(), 4);
        int[] all = {0, 1, 2, 3, 4, 5, 6, 7, 8, 9, 10, 99};
        Check.due("riseByEnds()", Fixtures.withProofs(all).riseByEnds(), 12);
    }

    private static void riseCount() {
        Check.due("riseCount() without proofs", Fixtures.fresh().riseCount(), 1);
        Check.due("riseCount()", Fixtures.withProofs(0).riseCount(), 1);
        Check.due("riseCount()", Fixtures.withProofs(4, 4, 4).riseCount(), 3);
        Check.due("riseCount()", Fixtures.withProofs(5, 3, 4, 9, 4, 6).riseCount(), 3);
        Check.due("riseCount()", Fixtures.withProofs(1, 2, 1, 2).riseCount(), 3);
        int[] most = {3, 2, 1, 6, 5, 4, 9, 8, 7, 12, 11, 10};
        Check.due("riseCount()", Fixtures.withProofs(most).riseCount(), 81);
        InkPrintery x = Fixtures.withProofs(5, 3, 4, 9, 4, 6);
        x.dropProof(2);
        Check.due("riseCount() after dropProof", x.riseCount(), 1);
    }

    private static void minutes() {
        InkPrintery x = Fixtures.busy();
        Check.due("minutes()", x.minutes(), 0);
        x.print(4);
        Check.due("minutes() without a change", x.minutes(), 15);
        x.print(0);
        Check.due("minutes()", x.minutes(), 15 + 5 + 20);
        x.printAll();
        // The last five sheets: 2 for edition 1, 2 for edition 2, 1 for edition 3; 1, 3, 2.
        Check.due("minutes()", x.minutes(), 40 + 7 + 2 + 1 + 7 + 2);
        x.pass(1);
        Check.due("minutes() after an hour", x.minutes(), 59);
    }

    private static void poured() {
        InkPrintery x = Fixtures.fresh();
        Check.due("poured()", x.poured(), 0);
        for (int time = 1; time <= 4; time++) {
            x.addInk(0, 999);
            x.pass(10);
            Check.due("poured()", x.poured(), 999 * time);
        }
        x.undo();
        x.undo();
        Check.due("poured() after undo", x.poured(), 2997);
    }

    private static void used() {
        InkPrintery x = Fixtures.busy();
        Check.due("used()", x.used(), 0);
        x.print(3);
        x.pass(5);
        Check.due("used()", x.used(), 3);
        x.print(0);
        Check.due("used()", x.used(), 23);
        x.removeEdition(0);
        Check.due("used() after removeEdition", x.used(), 23);
    }

    private static void faded() {
        InkPrintery x = Fixtures.busy();
        Check.due("faded()", x.faded(), 0);
        x.print(3);
        Check.due("faded() after print", x.faded(), 0);
        x.pass(1);
        Check.due("faded()", x.faded(), 50);
        x.pass(47);
        Check.due("faded()", x.faded(), x.poured() - x.used() - x.inkInWells());
        x.undo();
        Check.due("faded() after undo", x.faded(), 50);
    }

    private static void inkInWells() {
        InkPrintery x = Fixtures.busy();
        Check.due("inkInWells()", x.inkInWells(), 234);
        x.print(0);
        Check.due("inkInWells() after print", x.inkInWells(), 214);
        x.pass(1);
        Check.due("inkInWells() after an hour", x.inkInWells(), 164);
        InkPrintery full = Fixtures.fresh();
        for (int colour = 0; colour < Fixtures.COLOURS; colour++) {
            full.addInk(colour, 999);
        }
        Check.due("inkInWells() of full wells", full.inkInWells(), 9990);
    }

    private static void meanRun() {
        InkPrintery x = Fixtures.fresh();
        Check.refused("meanRun()", ArithmeticException.class, () -> (long) x.meanRun());
        x.addEdition(0, 50);
        Check.due("meanRun()", x.meanRun(), 50.0);
        x.addEdition(0, 1);
        x.addEdition(0, 2);
        Check.due("meanRun()", x.meanRun(), 53.0 / 3.0);
        x.removeEdition(0);
        Check.due("meanRun()", x.meanRun(), 1.5);
        x.removeEdition(0);
        x.removeEdition(0);
        Check.refused("meanRun()", ArithmeticException.class, () -> (long) x.meanRun());
    }

    private static void fadedShare() {
        InkPrintery x = Fixtures.fresh();
        Check.refused("fadedShare()", ArithmeticException.class, () -> (long) x.fadedShare());
        x.addInk(0, 3);
        Check.due("fadedShare()", x.fadedShare(), 0.0f);
        x.pass(1);
        Check.due("fadedShare()", x.fadedShare(), 2.0f / 3.0f);
        x.pass(1);
        Check.due("fadedShare()", x.fadedShare(), 1.0f);
        x.undo();
        x.undo();
        x.undo();
        Check.refused("fadedShare()", ArithmeticException.class, () -> (long) x.fadedShare());
    }

    private static void writeEdition() {
        InkPrintery x = Fixtures.busy();
        x.print(2);
        Check.due("writeEdition(2)", x.writeEdition(2), 8);
        Check.due("line", Fixtures.line(x, 8), "2c9:4/30");
        x.print(4);
        Check.due("writeEdition(4)", x.writeEdition(4), 9);
        Check.due("line", Fixtures.line(x, 9), "4c0:15/15");
        for (int wrong : new int[] {-1, 5, 7, LOWEST, HIGHEST}) {
            refusedOf(x, "writeEdition(" + wrong + ")", Check.INDEX, () -> x.writeEdition(wrong));
        }
        Check.due("line", Fixtures.line(x, 9), "4c0:15/15");
        Check.due("writeEdition(3)", x.writeEdition(3), 7);
        Check.due("line", Fixtures.line(x, 7), "3c2:0/3");
        Check.refused("lineAt(7)", Check.INDEX, () -> x.lineAt(7));
    }

    private static void writeWells() {
        InkPrintery x = Fixtures.fresh();
        Check.due("writeWells()", x.writeWells(), 19);
        Check.due("line", Fixtures.line(x, 19), "0 0 0 0 0 0 0 0 0 0");
        for (int colour = 0; colour < Fixtures.COLOURS; colour++) {
            x.addInk(colour, 990 + colour);
        }
        Check.due("writeWells()", x.writeWells(), 39);
        Check.due("line", Fixtures.line(x, 39), "990 991 992 993 994 995 996 997 998 999");
        x.addEdition(1, 1);
        x.writeEdition(0);
        Check.refused("lineAt(7)", Check.INDEX, () -> x.lineAt(7));
        x.pass(9);
        Check.due("writeWells()", x.writeWells(), 36);
        Check.due("line", Fixtures.line(x, 36), "1 61 124 248 497 497 498 498 499 999");
    }

    private static void lineAt() {
        InkPrintery x = Fixtures.fresh();
        for (int wrong : new int[] {-1, 0, LOWEST, HIGHEST}) {
            Check.refused("lineAt(" + wrong + ")", Check.INDEX, () -> x.lineAt(wrong));
        }
        x.addEdition(7, 30);
        x.writeEdition(0);
        Check.due("lineAt(0)", x.lineAt(0), '0');
        Check.due("lineAt(1)", x.lineAt(1), 'c');
        Check.due("lineAt(6)", x.lineAt(6), '3');
        Check.due("lineAt(7)", x.lineAt(7), '0');
        for (int wrong : new int[] {-1, 8, LOWEST, HIGHEST}) {
            Check.refused("lineAt(" + wrong + ")", Check.INDEX, () -> x.lineAt(wrong));
        }
        // The line is no part of the state that is undone or restored.
        x.save();
        x.writeWells();
        x.undo();
        x.restore();
        Check.due("line", Fixtures.line(x, 19), "0 0 0 0 0 0 0 0 0 0");
    }

    private static void isConsistent() {
        Check.due("isConsistent()", Fixtures.fresh().isConsistent(), true);
        InkPrintery x = Fixtures.busy();
        Check.due("isConsistent()", x.isConsistent(), true);
        x.printAll();
        x.pass(13);
        x.addProof(4);
        x.addProof(7);
        String before = Fixtures.state(x);
        Check.due("isConsistent()", x.isConsistent(), true);
        Check.due("state", Fixtures.state(x), before);
        x.undo();
        x.undo();
        x.undo();
        Check.due("isConsistent() after undo", x.isConsistent(), true);
        x.save();
        x.addInk(8, 999);
        x.restore();
        Check.due("isConsistent() after restore", x.isConsistent(), true);
    }

    private static void type() {
        InkPrintery x = Fixtures.fresh();
        Check.due("type(' ')", x.type(' '), 1);
        Check.due("type('~')", x.type('~'), 2);
        for (int sign : new int[] {0, 9, 10, 31, 127, 128, 255, 256, 65535}) {
            Check.refused("type(" + sign + ")", Check.ARGUMENT, () -> x.type((char) sign));
        }
        for (int length = 3; length <= 60; length++) {
            Check.due("type('a')", x.type('a'), length);
        }
        Check.refused("type('a') as the 61st", Check.STATE, () -> x.type('a'));
        Check.refused("type(31) as the 61st", Check.ARGUMENT, () -> x.type((char) 31));
        Check.refused("execute()", Check.ARGUMENT, x::execute);
        Check.due("type('a')", x.type('a'), 1);
        Check.refused("undo()", Check.STATE, x::undo);
    }

    private static void execute() {
        InkPrintery x = Fixtures.fresh();
        Check.due("execute()", Fixtures.execute(x, "ink 0 50;paper 9;edition 0 10;print 0;hours 01"), 5);
        Check.due("state", Fixtures.state(x), "20 0 0 0 0 0 0 0 0 0 paper 0 hour 1 press 0"
                + " minutes 9 poured 50 used 9 faded 21 e0:9/10");
        Check.due("type('a')", x.type('a'), 1);
        Check.refused("execute()", Check.ARGUMENT, x::execute);
        Check.refused("execute() of an empty text", Check.ARGUMENT, x::execute);
        String most = "all;all;all;all;all;all;all;all;all;all;all;all;all;all;all";
        Check.due("execute() of 15 commands", Fixtures.execute(x, most), 15);
        Check.due("undo()", x.undo(), 1);
        Check.due("undo()", x.undo(), 0);
        Check.due("poured()", x.poured(), 0);
    }

    private static void executeEachCommand() {
        InkPrintery x = Fixtures.fresh();
        Fixtures.execute(x, "ink 7 3;ink 6 045;paper 7;paper 012;paper 999");
        Check.due("ink(7)", x.ink(7), 3);
        Check.due("ink(6)", x.ink(6), 45);
        Check.due("paper()", x.paper(), 1018);
        Fixtures.execute(x, "edition 7 9;edition 6 50;edition 3 01;print 1;remove 2");
        Check.due("editionCount()", x.editionCount(), 2);
        Check.due("printedOf(0)", x.printedOf(0), 0);
        Check.due("printedOf(1)", x.printedOf(1), 45);
        Fixtures.execute(x, "all");
        Check.due("printedOf(0)", x.printedOf(0), 3);
        Fixtures.execute(x, "proof 0;hours 7;proof 99;hours 48;proof 05;drop 01");
        Check.due("proofCount()", x.proofCount(), 2);
        Check.due("marksOf(1)", x.marksOf(1), 5);
        Check.due("hourOf(1)", x.hourOf(1), 55);
        Check.due("execute()", Fixtures.execute(x, "drop 1;remove 0"), 2);
        Check.due("colourOf(0)", x.colourOf(0), 6);
        Check.due("marksOf(0)", x.marksOf(0), 0);
    }

    private static void executeAllOrNone() {
        refusedText(Fixtures.busy(), "ink 3 9;paper 9;edition 1 9;remove 0;print 0;all;print 0", 6);
        refusedText(Fixtures.busy(), "hours 3;proof 3;proof 4;drop 0;drop 1", 4);
        refusedText(Fixtures.busy(), "ink 0 899;ink 0 1", 1);
        refusedText(Fixtures.busy(), "ink 3 0", 0);
        refusedText(Fixtures.busy(), "paper 0", 0);
        refusedText(Fixtures.busy(), "edition 3 51", 0);
        refusedText(Fixtures.busy(), "edition 3 0", 0);
        refusedText(Fixtures.busy(), "remove 5", 0);
        refusedText(Fixtures.busy(), "print 9", 0);
        refusedText(Fixtures.busy(), "edition 8 1;print 5", 1);
        refusedText(Fixtures.busy(), "hours 0", 0);
        refusedText(Fixtures.busy(), "hours 49", 0);
        refusedText(Fixtures.busy(), "drop 0", 0);
        refusedText(Fixtures.busy(), "all;edition 1 1;edition 1 1;edition 1 1", 3);
        // A text that fails is no modification: the last one is an addEdition of busy().
        InkPrintery x = Fixtures.busy();
        refusedText(x, "hours 3;print 9", 1);
        Check.due("undo()", x.undo(), 7);
        Check.due("editionCount()", x.editionCount(), 4);
    }

    private static void refusedText(InkPrintery x, String text, int failed) {
        Fixtures.type(x, text);
        refusedOf(x, "execute() of " + text, Check.STATE, x::execute);
        Check.due("failedCommand() of " + text, x.failedCommand(), failed);
        Check.due("type(' ') after " + text, x.type(' '), 1);
        Check.refused("execute() of a blank", Check.ARGUMENT, x::execute);
    }

    private static void errorPosition() {
        malformed("", 0);
        malformed("x", 0);
        malformed(";", 0);
        malformed(" all", 0);
        malformed("All", 0);
        malformed("a", 1);
        malformed("alx", 2);
        malformed("al", 2);
        malformed("all ", 3);
        malformed("all;", 4);
        malformed("all;;", 4);
        malformed("all; all", 4);
        malformed("p", 1);
        malformed("px", 1);
        malformed("pr", 2);
        malformed("pra", 2);
        malformed("proo", 4);
        malformed("prink", 4);
        malformed("papex 1", 4);
        malformed("paper", 5);
        malformed("paper1", 5);
        malformed("paper ", 6);
        malformed("paper  1", 6);
        malformed("paper x", 6);
        malformed("paper 1234", 9);
        malformed("paper 12x", 8);
        malformed("paper 12 ", 8);
        malformed("ink 12", 5);
        malformed("ink 1", 5);
        malformed("ink 1;", 5);
        malformed("ink 1 ", 6);
        malformed("ink 1 9999", 9);
        malformed("ink 1 999 ", 9);
        malformed("edition 1 123", 12);
        malformed("edition 10 1", 9);
        malformed("remove 10", 8);
        malformed("remove -1", 7);
        malformed("print 1 1", 7);
        malformed("print 10", 7);
        malformed("hours 123", 8);
        malformed("proof 100", 8);
        malformed("drop 123", 7);
        malformed("drop 1/", 6);
        malformed("drop 1:", 6);
        malformed("hours 1;paper 1;proof 1;remove 7;prin", 37);
        malformed("all;all;all;all;all;all;all;all;all;all;all;all;all;all;all;", 60);
        errorPositionLasts();
    }

    private static void errorPositionLasts() {
        InkPrintery x = Fixtures.fresh();
        Check.refused("errorPosition()", Check.ELEMENT, x::errorPosition);
        Fixtures.execute(x, "all");
        Check.refused("errorPosition()", Check.ELEMENT, x::errorPosition);
        // A malformed text that would fail too is malformed.
        malformed(x, "print 0;x", 8);
        Check.refused("failedCommand()", Check.ELEMENT, x::failedCommand);
        Fixtures.execute(x, "all");
        Check.due("errorPosition() after a good text", x.errorPosition(), 8);
        x.save();
        x.undo();
        x.restore();
        Check.due("errorPosition() after undo and restore", x.errorPosition(), 8);
    }

    private static void malformed(String text, int position) {
        malformed(Fixtures.fresh(), text, position);
    }

    private static void malformed(InkPrintery x, String text, int position) {
        Fixtures.type(x, text);
        refusedOf(x, "execute() of " + text, Check.ARGUMENT, x::execute);
        Check.due("errorPosition() of " + text, x.errorPosition(), position);
    }

    private static void failedCommand() {
        InkPrintery x = Fixtures.fresh();
        Check.refused("failedCommand()", Check.ELEMENT, x::failedCommand);
        Fixtures.type(x, "bad");
        Check.refused("execute()", Check.ARGUMENT, x::execute);
        Check.refused("failedCommand()", Check.ELEMENT, x::failedCommand);
        refusedText(x, "all;all;print 0;drop 0", 2);
        Fixtures.execute(x, "all");
        Check.due("failedCommand() after a good text", x.failedCommand(), 2);
        x.save();
        x.undo();
        x.restore();
        Check.due("failedCommand() after undo and restore", x.failedCommand(), 2);
        refusedText(x, "print 0", 0);
    }

    private static void undo() {
        InkPrintery x = Fixtures.fresh();
        Check.refused("undo()", Check.STATE, x::undo);
        x.addPaper(5);
        x.addPaper(6);
        Fixtures.type(x, "all");
        Check.due("undo()", x.undo(), 1);
        Check.due("paper()", x.paper(), 5);
        // An undo is no modification, and the buffer is as it was.
        Check.due("type(';')", x.type(';'), 4);
        Check.due("undo()", x.undo(), 0);
        Check.due("paper()", x.paper(), 0);
        Check.refused("undo()", Check.STATE, x::undo);
        x.addPaper(7);
        Check.due("undo()", x.undo(), 0);
        Check.due("paper()", x.paper(), 0);
    }

    private interface Modification {
        int of(InkPrintery x);
    }

    private static void undoEachModification() {
        undone("addInk", x -> x.addInk(5, 5));
        undone("addPaper", x -> x.addPaper(5));
        undone("addEdition", x -> x.addEdition(5, 5));
        undone("removeEdition", x -> x.removeEdition(0));
        undone("print", x -> x.print(0));
        undone("printAll", InkPrintery::printAll);
        undone("pass", x -> x.pass(48));
        undone("addProof", x -> x.addProof(5));
        undone("dropProof", x -> x.dropProof(0));
        undone("execute", x -> Fixtures.execute(x, "all;hours 5;proof 1;remove 2"));
    }

    private static void undone(String name, Modification modification) {
        InkPrintery x = Fixtures.busy();
        x.addProof(3);
        x.pass(1);
        x.addProof(8);
        String before = Fixtures.state(x);
        modification.of(x);
        Check.due("nothing changed by " + name, Fixtures.state(x).equals(before), false);
        Check.due("undo() of " + name, x.undo(), 7);
        Check.due("state after undo() of " + name, Fixtures.state(x), before);
    }

    private static void undoAtMostEight() {
        InkPrintery x = Fixtures.fresh();
        for (int sheets = 1; sheets <= 30; sheets++) {
            x.addPaper(1);
            int left = Math.min(sheets, 8) - 1;
            Check.due("undo()", x.undo(), left);
            x.addPaper(1);
        }
        for (int left = 7; left >= 0; left--) {
            Check.due("undo()", x.undo(), left);
            Check.due("paper()", x.paper(), 22 + left);
        }
        Check.refused("undo() of the ninth", Check.STATE, x::undo);
        Check.due("paper()", x.paper(), 22);
    }

    private static void undoNoRefused() {
        InkPrintery x = Fixtures.fresh();
        for (int sheets = 0; sheets < 9; sheets++) {
            x.addPaper(100);
        }
        Check.refused("addInk(10, 1)", Check.ARGUMENT, () -> x.addInk(10, 1));
        Check.refused("addPaper(0)", Check.ARGUMENT, () -> x.addPaper(0));
        Check.refused("addEdition(0, 0)", Check.ARGUMENT, () -> x.addEdition(0, 0));
        Check.refused("removeEdition(0)", Check.INDEX, () -> x.removeEdition(0));
        Check.refused("print(0)", Check.INDEX, () -> x.print(0));
        Check.refused("pass(0)", Check.ARGUMENT, () -> x.pass(0));
        Check.refused("addProof(100)", Check.ARGUMENT, () -> x.addProof(100));
        Check.refused("dropProof(0)", Check.INDEX, () -> x.dropProof(0));
        Check.refused("execute()", Check.ARGUMENT, x::execute);
        Fixtures.type(x, "all;drop 0");
        Check.refused("execute()", Check.STATE, x::execute);
        x.save();
        x.writeWells();
        Check.due("undos left", Fixtures.undosLeft(x), 8);
        Check.due("paper()", x.paper(), 100);
    }

    private static void save() {
        InkPrintery x = Fixtures.busy();
        String first = Fixtures.state(x);
        Check.due("save()", x.save(), 5);
        x.removeEdition(4);
        x.pass(3);
        Check.due("state is not the snapshot", Fixtures.state(x).equals(first), false);
        x.restore();
        Check.due("state", Fixtures.state(x), first);
        x.removeEdition(4);
        String second = Fixtures.state(x);
        Check.due("save()", x.save(), 4);
        // A save can't be undone; what was modified before can.
        Check.due("undo()", x.undo(), 0);
        Check.due("state", Fixtures.state(x), first);
        Check.due("restore()", x.restore(), 4);
        Check.due("state", Fixtures.state(x), second);
        Check.due("save() without editions", Fixtures.fresh().save(), 0);
    }

    private static void restore() {
        InkPrintery x = Fixtures.busy();
        x.addProof(50);
        refusedOf(x, "restore()", Check.STATE, x::restore);
        x.save();
        String saved = Fixtures.state(x);
        for (int time = 0; time < 3; time++) {
            x.addProof(time);
            x.dropProof(0);
            x.printAll();
            x.pass(time + 1);
            x.removeEdition(1);
            Check.due("restore()", x.restore(), 5);
            Check.due("state", Fixtures.state(x), saved);
            Check.refused("undo()", Check.STATE, x::undo);
        }
        Fixtures.type(x, "al");
        Check.due("restore()", x.restore(), 5);
        Check.due("type('l')", x.type('l'), 3);
        Check.due("execute()", x.execute(), 1);
        Check.due("undo()", x.undo(), 0);
        Check.due("state", Fixtures.state(x), saved);
    }
}
