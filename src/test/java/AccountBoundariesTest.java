import java.util.function.Supplier;

/** The boundaries that promises 36 to 46 name: accounts, lines and checks. */
public final class AccountBoundariesTest {
    private AccountBoundariesTest() {
    }

    public static void main(String[] args) {
        minutes();
        inkAccounts();
        meanRun();
        fadedShare();
        writeEdition();
        writeWells();
        lineAt();
        isConsistent();
        Check.end();
    }

    /** Ten full wells. */
    private static Supplier<InkPrintery> fullWells() {
        return Fixtures.made(x -> {
            for (int colour = 0; colour < Fixtures.COLOURS; colour++) {
                x.addInk(colour, 999);
            }
        });
    }

    private static void minutes() {
        Check.test("promise 36: nothing printed, 0 minutes", () -> {
            Supplier<InkPrintery> made = Fixtures.made(x -> {
                x.addInk(9, 999);
                x.addEdition(9, 50);
                x.pass(48);
                x.printAll();
            });
            Twins.answers(Fixtures::fresh, "minutes()", 0, InkPrintery::minutes);
            Twins.answers(made, "minutes()", 0, InkPrintery::minutes);
        });
        Check.test("promise 36: changes of colours included, and none for the same colour", () -> {
            InkPrintery x = fullWells().get();
            x.addPaper(999);
            x.addEdition(0, 1);
            x.addEdition(9, 1);
            x.addEdition(9, 50);
            x.addEdition(0, 50);
            int[] due = {1, 1 + 10, 11 + 50, 61 + 69};
            for (int edition = 0; edition < 4; edition++) {
                x.print(edition);
                Check.due("minutes() after print(" + edition + ")", x.minutes(), due[edition]);
            }
        });
    }

    private static void inkAccounts() {
        Check.test("promise 37: nothing poured, and what was refused is not poured", () -> {
            Twins.answers(Fixtures::fresh, "poured()", 0, InkPrintery::poured);
            InkPrintery x = Fixtures.fresh();
            x.addInk(0, 999);
            Check.refused("addInk(0, 1)", Check.STATE, () -> x.addInk(0, 1));
            Check.due("poured()", x.poured(), 999);
        });
        Check.test("promise 37: more than all wells contain", () -> {
            InkPrintery x = Fixtures.fresh();
            for (int time = 0; time < 200; time++) {
                x.addInk(0, 999);
                x.pass(10);
            }
            Check.due("poured()", x.poured(), 199800);
            Check.due("faded()", x.faded(), 199800);
            Check.due("inkInWells()", x.inkInWells(), 0);
            Check.due("isConsistent()", x.isConsistent(), true);
        });
        Check.test("promise 38: nothing used, and what faded is not used", () -> {
            Twins.answers(Fixtures::fresh, "used()", 0, InkPrintery::used);
            Supplier<InkPrintery> made = Fixtures.made(x -> {
                x.addInk(0, 999);
                x.pass(48);
            });
            Twins.answers(made, "used()", 0, InkPrintery::used);
        });
        Check.test("promise 39: nothing faded, and what was used did not fade", () -> {
            Twins.answers(Fixtures::fresh, "faded()", 0, InkPrintery::faded);
            Supplier<InkPrintery> made = Fixtures.made(x -> {
                x.addInk(0, 50);
                x.addPaper(50);
                x.addEdition(0, 50);
                x.printAll();
                x.pass(48);
            });
            Twins.answers(made, "faded()", 0, InkPrintery::faded);
            Twins.answers(made, "used()", 50, InkPrintery::used);
        });
        Check.test("promise 40: empty wells and full wells", () -> {
            Twins.answers(Fixtures::fresh, "inkInWells()", 0, InkPrintery::inkInWells);
            Twins.answers(fullWells(), "inkInWells()", 9990, InkPrintery::inkInWells);
        });
    }

    private static Supplier<InkPrintery> runs(int... runs) {
        return Fixtures.made(x -> {
            for (int run : runs) {
                x.addEdition(0, run);
            }
        });
    }

    private static void meanDue(double due, int... runs) {
        Check.due("meanRun() of " + runs.length, runs(runs).get().meanRun(), due);
    }

    private static void meanRun() {
        Check.test("promise 41: refused if there are no editions", () -> {
            Twins.refuses(Fixtures::fresh, "meanRun()", Check.ARITHMETIC, x -> (long) x.meanRun());
            Supplier<InkPrintery> removed = Fixtures.lived(x -> {
                while (x.editionCount() > 0) {
                    x.removeEdition(0);
                }
            });
            Twins.refuses(removed, "meanRun()", Check.ARITHMETIC, x -> (long) x.meanRun());
        });
        Check.test("promise 41: of one edition to seven", () -> {
            meanDue(1.0, 1);
            meanDue(50.0, 50);
            meanDue(25.5, 1, 50);
            meanDue(50.0, 50, 50, 50, 50, 50, 50, 50);
            meanDue(8.0 / 7.0, 1, 1, 1, 1, 1, 1, 2);
        });
        Check.test("promise 41: of the editions that are left", () -> {
            InkPrintery x = runs(10, 20, 30, 40, 50, 1, 2).get();
            double[] due = {151.0 / 6.0, 30.0, 25.0, 20.0, 15.0, 10.0};
            for (int left = 6; left >= 1; left--) {
                x.removeEdition(left);
                Check.due("meanRun() of " + left, x.meanRun(), due[6 - left]);
            }
        });
        Check.test("promise 41: of the runs, printed or not, in double", () -> {
            Supplier<InkPrintery> made = Fixtures.made(x -> {
                x.addInk(0, 9);
                x.addPaper(9);
                x.addEdition(0, 1);
                x.addEdition(0, 1);
                x.addEdition(0, 2);
                x.printAll();
            });
            Check.due("meanRun()", made.get().meanRun(), 4.0 / 3.0);
        });
    }

    private static void fadedShare() {
        Check.test("promise 42: refused if no ink was poured in", () -> {
            Twins.refuses(Fixtures::fresh, "fadedShare()", Check.ARITHMETIC,
                    x -> (long) x.fadedShare());
            Supplier<InkPrintery> undone = Fixtures.made(x -> {
                x.addInk(0, 9);
                x.pass(1);
                x.undo();
                x.undo();
            });
            Twins.refuses(undone, "fadedShare()", Check.ARITHMETIC, x -> (long) x.fadedShare());
        });
        Check.test("promise 42: of none and of all", () -> {
            InkPrintery x = Fixtures.fresh();
            x.addInk(1, 1);
            Check.due("fadedShare()", x.fadedShare(), 0.0f);
            x.pass(1);
            Check.due("fadedShare()", x.fadedShare(), 0.0f);
            x.pass(1);
            Check.due("fadedShare()", x.fadedShare(), 1.0f);
        });
        Check.test("promise 42: of the poured ink, not of what is left; in float", () -> {
            InkPrintery x = Fixtures.fresh();
            x.addInk(0, 1);
            x.addInk(1, 2);
            x.pass(1);
            Check.due("fadedShare()", x.fadedShare(), 1.0f / 3.0f);
            x.pass(1);
            Check.due("fadedShare()", x.fadedShare(), 2.0f / 3.0f);
        });
    }

    private static void lineDue(String call, InkPrintery x, int length, String due) {
        Check.due(call, length, due.length());
        Check.due("the line of " + call, Fixtures.line(x, length), due);
        Check.refused("lineAt after the line of " + call, Check.INDEX, () -> x.lineAt(length));
    }

    private static void writeEdition() {
        Check.test("promise 43: the number of the edition", () -> {
            Twins.refusesOutside(Fixtures.typing(), "writeEdition(?)", 0, 3, Check.INDEX,
                    InkPrintery::writeEdition);
            Twins.refusesOutside(Fixtures.lived(x -> Fixtures.addEditions(x, 7)),
                    "writeEdition(?) of 7", 0, 6, Check.INDEX, InkPrintery::writeEdition);
            Twins.refusesOutside(Fixtures::fresh, "writeEdition(?) of none", 0, -1, Check.INDEX,
                    InkPrintery::writeEdition);
        });
        Check.test("promise 43: the shortest and the longest line", () -> {
            InkPrintery x = Fixtures.fresh();
            x.addEdition(0, 1);
            lineDue("writeEdition(0)", x, x.writeEdition(0), "0c0:0/1");
            Fixtures.addEditions(x, 6);
            x.addEdition(9, 50);
            x.addPaper(50);
            x.addInk(9, 50);
            lineDue("writeEdition(6)", x, x.writeEdition(6), "6c9:0/50");
            x.print(6);
            lineDue("writeEdition(6)", x, x.writeEdition(6), "6c9:50/50");
        });
        Check.test("promise 43: replaces the previous line", () -> {
            InkPrintery x = Fixtures.fresh();
            x.addEdition(3, 4);
            x.writeWells();
            lineDue("writeEdition(0)", x, x.writeEdition(0), "0c3:0/4");
            x.removeEdition(0);
            Check.due("the line stays", Fixtures.line(x, 7), "0c3:0/4");
        });
    }

    private static void writeWells() {
        Check.test("promise 44: the shortest and the longest line", () -> {
            InkPrintery empty = Fixtures.fresh();
            lineDue("writeWells()", empty, empty.writeWells(), "0 0 0 0 0 0 0 0 0 0");
            InkPrintery full = fullWells().get();
            lineDue("writeWells()", full, full.writeWells(),
                    "999 999 999 999 999 999 999 999 999 999");
        });
        Check.test("promise 44: replaces the previous line", () -> {
            InkPrintery x = fullWells().get();
            x.writeWells();
            x.pass(48);
            x.pass(48);
            lineDue("writeWells()", x, x.writeWells(), "0 0 0 0 0 0 0 0 0 1");
            x.addEdition(0, 1);
            x.writeEdition(0);
            x.pass(4);
            lineDue("writeWells()", x, x.writeWells(), "0 0 0 0 0 0 0 0 0 0");
        });
    }

    private static void lineAt() {
        Check.test("promise 45: the line is empty at first", () -> Twins.refusesOutside(
                Fixtures::fresh, "lineAt(?)", 0, -1, Check.INDEX, InkPrintery::lineAt));
        Check.test("promise 45: the index of the character, from 0", () -> {
            Twins.range(Fixtures.typing(), "lineAt(?)", 0, 7, Check.INDEX, InkPrintery::lineAt);
            Twins.range(Fixtures.lived(InkPrintery::writeWells), "lineAt(?)", 0,
                    "10 0 145 0 0 59 0 0 0 0".length() - 1, Check.INDEX, InkPrintery::lineAt);
            Twins.answers(Fixtures.typing(), "lineAt(0)", '2', x -> x.lineAt(0));
            Twins.answers(Fixtures.typing(), "lineAt(7)", '0', x -> x.lineAt(7));
        });
    }

    private static void isConsistent() {
        Check.test("promise 46: of a new object", () ->
                Twins.answers(Fixtures::fresh, "isConsistent()", 1, x -> x.isConsistent() ? 1 : 0));
        Check.test("promise 46: when everything is full", () -> {
            Supplier<InkPrintery> made = Fixtures.made(x -> {
                for (int colour = 0; colour < Fixtures.COLOURS; colour++) {
                    x.addInk(colour, 999);
                }
                Fixtures.addPaper(x, 9999);
                for (int edition = 0; edition < 7; edition++) {
                    x.addEdition(9 - edition, 50);
                }
                Fixtures.addProofs(x, 12);
            });
            Twins.answers(made, "isConsistent()", 1, x -> x.isConsistent() ? 1 : 0);
        });
        Check.test("promise 46: in each hour, with less and less paper", () -> {
            InkPrintery x = Fixtures.lived();
            for (int time = 1; time <= 20; time++) {
                x.pass(time);
                x.addProof(time * 7 % 13);
                x.addPaper(time % 3 + 1);
                x.printAll();
                x.dropProof(0);
                Check.due("isConsistent() of time " + time, x.isConsistent(), true);
            }
        });
    }
}
