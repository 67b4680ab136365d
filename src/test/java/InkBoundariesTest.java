import java.util.function.Supplier;

/** The boundaries that promises 1 to 10 and the terms of ink name: a test for each sentence. */
public final class InkBoundariesTest {
    private static final int[] HALVES_OF_999 = {999, 499, 249, 124, 62, 31, 15, 7, 3, 1, 0, 0};

    private InkBoundariesTest() {
    }

    public static void main(String[] args) {
        terms();
        newObject();
        addInk();
        addPaper();
        pass();
        inkPaperAndHour();
        inkLeft("promise 8: inkAfter", InkPrintery::inkAfter);
        inkLeft("promise 9: inkByHalvings", InkPrintery::inkByHalvings);
        hoursUntilLess();
        Check.end();
    }

    private static Supplier<InkPrintery> well(int colour, int units) {
        return Fixtures.lived(x -> fill(x, colour, units));
    }

    private static void fill(InkPrintery x, int colour, int units) {
        if (units > x.ink(colour)) {
            x.addInk(colour, units - x.ink(colour));
        }
    }

    private static Supplier<InkPrintery> store(int sheets) {
        return Fixtures.lived(x -> Fixtures.addPaper(x, sheets));
    }

    private static void terms() {
        Check.test("ink: a well contains from 0 to 999 units", () -> {
            InkPrintery x = Fixtures.fresh();
            for (int colour = 0; colour < Fixtures.COLOURS; colour++) {
                Check.due("the empty well " + colour, x.ink(colour), 0);
                Check.due("the full well " + colour, x.addInk(colour, 999), 999);
                Check.due("the others of " + colour, x.inkInWells(), 999 * (colour + 1));
            }
        });
        Check.test("ink: the number of hours increases, then the wells fade whose colour plus 1"
                + " divides it", InkBoundariesTest::fadesWhenDivided);
        Check.test("ink: half of it, rounded down", InkBoundariesTest::roundsDown);
        Check.test("ink: all that was poured is in the wells, was used, or faded", () -> {
            InkPrintery x = Fixtures.lived();
            for (int hours = 1; hours <= 48; hours++) {
                x.pass(hours);
                fill(x, hours % 10, 999);
                long whole = x.inkInWells() + x.used() + x.faded();
                Check.due("poured() after pass(" + hours + ")", x.poured(), whole);
            }
        });
    }

    private static void fadesWhenDivided() {
        for (int colour = 0; colour < Fixtures.COLOURS; colour++) {
            InkPrintery x = Fixtures.fresh();
            x.addInk(colour, 999);
            for (int hour = 1; hour <= 2 * colour + 4; hour++) {
                int before = x.ink(colour);
                int due = HALVES_OF_999[hour / (colour + 1)];
                Check.due("pass(1) to hour " + hour, x.pass(1), before - due);
                Check.due("ink(" + colour + ") in hour " + hour, x.ink(colour), due);
            }
        }
    }

    private static void roundsDown() {
        int[] units = {1, 2, 3, 4, 5, 998, 999};
        int[] halves = {0, 1, 1, 2, 2, 499, 499};
        for (int index = 0; index < units.length; index++) {
            InkPrintery x = Fixtures.fresh();
            x.addInk(0, units[index]);
            int faded = units[index] - halves[index];
            Check.due("pass(1) with " + units[index], x.pass(1), faded);
            Check.due("ink(0)", x.ink(0), halves[index]);
            Check.due("faded()", x.faded(), faded);
        }
    }

    private static void newObject() {
        Check.test("promise 1: without ink, at hour 0, with the colour 0 on the press", () -> {
            InkPrintery x = Fixtures.fresh();
            Check.due("state", Fixtures.state(x),
                    "0 0 0 0 0 0 0 0 0 0 paper 0 hour 0 press 0 minutes 0 poured 0 used 0 faded 0");
            Check.due("inkInWells()", x.inkInWells(), 0);
            Check.due("inkAfter(9, 99)", x.inkAfter(9, 99), 0);
            Check.due("inkByHalvings(9, 99)", x.inkByHalvings(9, 99), 0);
            Check.due("hoursUntilLess(9, 1)", x.hoursUntilLess(9, 1), 0);
            Check.refused("fadedShare()", Check.ARITHMETIC, () -> (long) x.fadedShare());
            Check.due("isConsistent()", x.isConsistent(), true);
        });
        Check.test("promise 1: without paper and editions", () -> {
            InkPrintery x = Fixtures.fresh();
            Check.due("editionCount()", x.editionCount(), 0);
            Check.due("printAll()", x.printAll(), 0);
            Check.due("fewestMinutes()", x.fewestMinutes(), 0);
            Check.due("minutesByOrders()", x.minutesByOrders(), 0);
            Check.due("save()", x.save(), 0);
            Check.refused("editionAt(0)", Check.ELEMENT, () -> x.editionAt(0));
            Check.refused("editionByMissing(0)", Check.ELEMENT, () -> x.editionByMissing(0));
            Check.refused("meanRun()", Check.ARITHMETIC, () -> (long) x.meanRun());
        });
        Check.test("promise 1: without proofs", () -> {
            InkPrintery x = Fixtures.fresh();
            Check.due("proofCount()", x.proofCount(), 0);
            Check.due("longestRise()", x.longestRise(), 0);
            Check.due("riseByEnds()", x.riseByEnds(), 0);
            Check.due("riseCount()", x.riseCount(), 1);
        });
        Check.test("promise 1: nothing that is stored, to undo or to restore", () -> {
            InkPrintery x = Fixtures.fresh();
            Check.refused("undo()", Check.STATE, x::undo);
            Check.refused("restore()", Check.STATE, x::restore);
            Check.refused("lineAt(0)", Check.INDEX, () -> x.lineAt(0));
            Check.refused("errorPosition()", Check.ELEMENT, x::errorPosition);
            Check.refused("failedCommand()", Check.ELEMENT, x::failedCommand);
            Check.due("type(' ')", x.type(' '), 1);
        });
    }

    private static void addInk() {
        Check.test("promise 2: the colour, 0 to 9", () -> Twins.range(Fixtures.typing(),
                "addInk(?, 1)", 0, 9, Check.ARGUMENT, (x, colour) -> x.addInk(colour, 1)));
        Check.test("promise 2: the number of units, 1 to 999", () -> Twins.range(Fixtures.typing(),
                "addInk(3, ?)", 1, 999, Check.ARGUMENT, (x, units) -> x.addInk(3, units)));
        Check.test("promise 2: returns the ink in the well afterwards", () -> {
            InkPrintery x = Fixtures.fresh();
            Check.due("addInk(9, 1)", x.addInk(9, 1), 1);
            Check.due("addInk(9, 998)", x.addInk(9, 998), 999);
            Check.due("addInk(0, 999)", x.addInk(0, 999), 999);
            Check.due("poured()", x.poured(), 1998);
        });
        Check.test("promise 2: refused if the well would contain more than 999", () -> {
            Check.due("998 + 1", well(3, 998).get().addInk(3, 1), 999);
            Check.due("1 + 998", well(3, 1).get().addInk(3, 998), 999);
            Twins.refuses(well(3, 998), "998 + 2", Check.STATE, x -> x.addInk(3, 2));
            Twins.refuses(well(3, 999), "999 + 1", Check.STATE, x -> x.addInk(3, 1));
            Twins.refuses(well(3, 1), "1 + 999", Check.STATE, x -> x.addInk(3, 999));
            Twins.refuses(well(3, 999), "999 + 999", Check.STATE, x -> x.addInk(3, 999));
            Check.due("another well", well(3, 999).get().addInk(4, 999), 999);
        });
        Check.test("promise 2: of several exceptions the first", () -> {
            for (int units : new int[] {0, 1000, -1, Integer.MIN_VALUE, Integer.MAX_VALUE}) {
                Twins.refuses(well(3, 999), "addInk(3, " + units + ") of a full well",
                        Check.ARGUMENT, x -> x.addInk(3, units));
            }
        });
    }

    private static void addPaper() {
        Check.test("promise 3: the number of sheets, 1 to 999", () -> Twins.range(Fixtures.typing(),
                "addPaper(?)", 1, 999, Check.ARGUMENT, InkPrintery::addPaper));
        Check.test("promise 3: returns the paper afterwards", () -> {
            InkPrintery x = Fixtures.fresh();
            Check.due("addPaper(1)", x.addPaper(1), 1);
            Check.due("addPaper(999)", x.addPaper(999), 1000);
        });
        Check.test("promise 3: refused if there would be more than 9999 sheets", () -> {
            Check.due("9998 + 1", store(9998).get().addPaper(1), 9999);
            Check.due("9000 + 999", store(9000).get().addPaper(999), 9999);
            Twins.refuses(store(9999), "9999 + 1", Check.STATE, x -> x.addPaper(1));
            Twins.refuses(store(9998), "9998 + 2", Check.STATE, x -> x.addPaper(2));
            Twins.refuses(store(9001), "9001 + 999", Check.STATE, x -> x.addPaper(999));
        });
        Check.test("promise 3: of several exceptions the first", () -> {
            for (int sheets : new int[] {0, 1000, Integer.MIN_VALUE, Integer.MAX_VALUE}) {
                Twins.refuses(store(9999), "addPaper(" + sheets + ") to a full store",
                        Check.ARGUMENT, x -> x.addPaper(sheets));
            }
        });
    }

    private static void pass() {
        Check.test("promise 4: the number of hours, 1 to 48", () -> Twins.range(Fixtures.typing(),
                "pass(?)", 1, 48, Check.ARGUMENT, InkPrintery::pass));
        Check.test("promise 4: returns the units that fade, of all wells and hours", () -> {
            InkPrintery x = Fixtures.fresh();
            Check.due("pass(48) without ink", x.pass(48), 0);
            for (int colour = 0; colour < Fixtures.COLOURS; colour++) {
                x.addInk(colour, 999);
            }
            // Hour 49 divides by 1 and 7, hour 50 by 1, 2, 5 and 10.
            Check.due("pass(1)", x.pass(1), 500 + 500);
            Check.due("pass(1)", x.pass(1), 250 + 500 + 500 + 500);
            Check.due("inkInWells()", x.inkInWells(), 9990 - 1000 - 1750);
            Check.due("faded()", x.faded(), 2750);
        });
        Check.test("promise 4: 48 hours are as many single hours", () -> {
            InkPrintery one = Fixtures.lived();
            InkPrintery other = Fixtures.lived();
            int faded = 0;
            for (int hour = 0; hour < 48; hour++) {
                faded += other.pass(1);
            }
            Check.due("pass(48)", one.pass(48), faded);
            Check.due("state", Fixtures.state(one), Fixtures.state(other));
        });
    }

    private static void inkPaperAndHour() {
        Check.test("promise 5: the colour, 0 to 9", () -> Twins.range(Fixtures.typing(),
                "ink(?)", 0, 9, Check.ARGUMENT, InkPrintery::ink));
        Check.test("promise 5: an empty and a full well", () -> {
            Twins.answers(well(3, 999), "ink(3)", 999, x -> x.ink(3));
            Twins.answers(well(3, 999), "ink(4)", 0, x -> x.ink(4));
        });
        Check.test("promise 6: no paper and a full store", () -> {
            Twins.answers(Fixtures.made(x -> x.addInk(0, 1)), "paper()", 0, InkPrintery::paper);
            Twins.answers(store(9999), "paper()", 9999, InkPrintery::paper);
        });
        Check.test("promise 7: hour 0 and the hours that have passed", () -> {
            Twins.answers(Fixtures::fresh, "hour()", 0, InkPrintery::hour);
            Twins.answers(Fixtures.made(x -> x.pass(1)), "hour()", 1, InkPrintery::hour);
            InkPrintery x = Fixtures.fresh();
            for (int time = 1; time <= 500; time++) {
                x.pass(48);
            }
            Check.due("hour() after 500 times 48", x.hour(), 24000);
        });
    }

    private interface InkLeft {
        int of(InkPrintery x, int colour, int hours);
    }

    private static void inkLeft(String promise, InkLeft left) {
        String name = promise.substring(promise.indexOf(": ") + 2);
        Check.test(promise + ", the colour, 0 to 9", () -> Twins.range(Fixtures.typing(),
                name + "(?, 1)", 0, 9, Check.ARGUMENT, (x, colour) -> left.of(x, colour, 1)));
        Check.test(promise + ", the number of hours, 0 to 99", () -> Twins.range(Fixtures.typing(),
                name + "(3, ?)", 0, 99, Check.ARGUMENT, (x, hours) -> left.of(x, 3, hours)));
        Check.test(promise + ", after 0 hours and after 99", () -> {
            Twins.answers(well(9, 999), name + "(9, 0)", 999, x -> left.of(x, 9, 0));
            // From hour 3 on, hour 10 is the first that halves, and hour 100 the tenth.
            Twins.answers(well(9, 999), name + "(9, 96)", 1, x -> left.of(x, 9, 96));
            Twins.answers(well(9, 999), name + "(9, 97)", 0, x -> left.of(x, 9, 97));
            Twins.answers(well(9, 999), name + "(9, 99)", 0, x -> left.of(x, 9, 99));
            Twins.answers(Fixtures.typing(), name + "(4, 99) without ink", 0,
                    x -> left.of(x, 4, 99));
        });
        Check.test(promise + ", of each colour from each hour", () -> eachHour(name, left));
    }

    /** What is told ahead is what the well contains when the hours have passed. */
    private static void eachHour(String name, InkLeft left) {
        for (int colour = 0; colour < Fixtures.COLOURS; colour++) {
            for (int hour = 0; hour <= 10; hour++) {
                InkPrintery x = Fixtures.fresh();
                if (hour > 0) {
                    x.pass(hour);
                }
                x.addInk(colour, 999);
                for (int hours = 0; hours <= 99; hours++) {
                    int halvings = (hour + hours) / (colour + 1) - hour / (colour + 1);
                    int due = HALVES_OF_999[Math.min(halvings, 10)];
                    String call = name + "(" + colour + ", " + hours + ") in hour " + hour;
                    Check.due(call, left.of(x, colour, hours), due);
                }
            }
        }
    }

    private static void hoursUntilLess() {
        Check.test("promise 10: the colour, 0 to 9", () -> Twins.range(Fixtures.typing(),
                "hoursUntilLess(?, 1)", 0, 9, Check.ARGUMENT,
                (x, colour) -> x.hoursUntilLess(colour, 1)));
        Check.test("promise 10: the limit, 1 to 999", () -> Twins.range(Fixtures.typing(),
                "hoursUntilLess(3, ?)", 1, 999, Check.ARGUMENT,
                (x, limit) -> x.hoursUntilLess(3, limit)));
        Check.test("promise 10: 0 if it contains less now", () -> {
            Twins.answers(well(3, 998), "hoursUntilLess(3, 999)", 0, x -> x.hoursUntilLess(3, 999));
            // In hour 3, the next one that halves the well 3 is hour 4.
            Twins.answers(well(3, 999), "hoursUntilLess(3, 999)", 1, x -> x.hoursUntilLess(3, 999));
            Twins.answers(well(3, 1), "hoursUntilLess(3, 2)", 0, x -> x.hoursUntilLess(3, 2));
            Twins.answers(well(3, 1), "hoursUntilLess(3, 1)", 1, x -> x.hoursUntilLess(3, 1));
            Twins.answers(Fixtures.typing(), "hoursUntilLess(3, 1) without ink", 0,
                    x -> x.hoursUntilLess(3, 1));
        });
        Check.test("promise 10: less than the limit, not as much", () -> {
            InkPrintery x = Fixtures.fresh();
            x.addInk(0, 999);
            for (int halvings = 1; halvings <= 10; halvings++) {
                int limit = HALVES_OF_999[halvings] + 1;
                Check.due("hoursUntilLess(0, " + limit + ")", x.hoursUntilLess(0, limit), halvings);
            }
            Check.due("hoursUntilLess(0, 499)", x.hoursUntilLess(0, 499), 2);
        });
        Check.test("promise 10: the longest wait", () -> {
            InkPrintery x = Fixtures.fresh();
            x.addInk(9, 999);
            Check.due("hoursUntilLess(9, 1) in hour 0", x.hoursUntilLess(9, 1), 100);
            Check.due("hoursUntilLess(9, 2) in hour 0", x.hoursUntilLess(9, 2), 90);
            x.pass(9);
            Check.due("hoursUntilLess(9, 1) in hour 9", x.hoursUntilLess(9, 1), 91);
            x.pass(1);
            x.addInk(9, 500);
            Check.due("hoursUntilLess(9, 1) in hour 10", x.hoursUntilLess(9, 1), 100);
        });
    }
}
