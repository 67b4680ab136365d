import java.util.function.Supplier;

/** The boundaries that promises 51 to 53 and the terms of undo and exceptions name. */
public final class UndoBoundariesTest {
    private static final int MOST_UNDOS = 8;
    private static final String[] NAMES = {"addInk", "addPaper", "print", "addEdition",
        "removeEdition", "printAll", "pass", "addProof", "dropProof", "execute"};
    private static final Twins.Call[] MODIFICATIONS = {x -> x.addInk(5, 1), x -> x.addPaper(1),
        x -> x.print(0), x -> x.addEdition(0, 1), x -> x.removeEdition(0), x -> x.printAll(),
        x -> x.pass(1), x -> x.addProof(0), x -> x.dropProof(0),
        x -> Fixtures.execute(x, "paper 1;remove 2")};
    private static final Twins.Call[] REFUSED = {x -> x.addInk(0, 0), x -> x.addPaper(1000),
        x -> x.addEdition(0, 51), x -> x.removeEdition(7), x -> x.print(1), x -> x.print(7),
        x -> x.pass(49), x -> x.addProof(100), x -> x.dropProof(12),
        x -> Fixtures.execute(x, "paper 1;drop 9"), x -> Fixtures.execute(x, "paper 1;drop")};

    private UndoBoundariesTest() {
    }

    public static void main(String[] args) {
        undoCounts();
        undoModifications();
        undoOthers();
        save();
        restore();
        restoreUndo();
        Check.end();
    }

    /** So many modifications, the n-th of which buys n sheets. */
    private static InkPrintery bought(int modifications) {
        InkPrintery x = Fixtures.fresh();
        for (int sheets = 1; sheets <= modifications; sheets++) {
            x.addPaper(sheets);
        }
        return x;
    }

    private static int sheets(int modifications) {
        return modifications * (modifications + 1) / 2;
    }

    private static void undoCounts() {
        Check.test("promise 51: refused if there is none", () -> {
            Twins.refuses(Fixtures::fresh, "undo() of a new object", Check.STATE,
                    InkPrintery::undo);
            Supplier<InkPrintery> undone = Fixtures.lived(Fixtures::undosLeft);
            Twins.refuses(undone, "undo() when all is undone", Check.STATE, InkPrintery::undo);
        });
        Check.test("promise 51: the last 8 modifications, and not the ninth", () -> {
            for (int count = 0; count <= 30; count++) {
                InkPrintery x = bought(count);
                for (int left = Math.min(count, MOST_UNDOS) - 1; left >= 0; left--) {
                    Check.due("undo() of " + count, x.undo(), left);
                    int kept = Math.max(count - MOST_UNDOS, 0) + left;
                    Check.due("paper() of " + count, x.paper(), sheets(kept));
                }
                Check.refused("undo() of one more", Check.STATE, x::undo);
                Check.due("paper()", x.paper(), sheets(Math.max(count - MOST_UNDOS, 0)));
            }
        });
        Check.test("promise 51: what comes after an undo can be undone in its place", () -> {
            for (int undone = 1; undone <= MOST_UNDOS; undone++) {
                InkPrintery x = bought(12);
                for (int time = 0; time < undone; time++) {
                    x.undo();
                }
                x.addPaper(500);
                Check.due("undo()", x.undo(), MOST_UNDOS - undone);
                Check.due("paper()", x.paper(), sheets(12 - undone));
                Check.due("undos left", Fixtures.undosLeft(x), MOST_UNDOS - undone);
                Check.due("paper()", x.paper(), sheets(4));
            }
        });
        Check.test("promise 51: again and again to the end", () -> {
            InkPrintery x = Fixtures.fresh();
            for (int round = 0; round < 20; round++) {
                for (int time = 0; time < 9; time++) {
                    x.addPaper(1);
                }
                Check.due("undos left", Fixtures.undosLeft(x), MOST_UNDOS);
                Check.due("paper()", x.paper(), round + 1);
            }
        });
    }

    private static void undoModifications() {
        Check.test("undo: each successful modification is one of the 8", () -> {
            for (int index = 0; index < NAMES.length; index++) {
                InkPrintery x = Fixtures.lived();
                Fixtures.undosLeft(x);
                x.addEdition(5, 5);
                x.addEdition(5, 5);
                x.addEdition(5, 5);
                x.addProof(5);
                String before = Fixtures.state(x);
                MODIFICATIONS[index].of(x);
                Check.due("state is as before " + NAMES[index], Fixtures.state(x).equals(before),
                        false);
                Check.due("undo() of " + NAMES[index], x.undo(), 4);
                Check.due("state after " + NAMES[index], Fixtures.state(x), before);
            }
        });
        Check.test("undo: eight of them back to each state before", () -> {
            InkPrintery x = Fixtures.lived();
            String[] before = new String[NAMES.length];
            for (int index = 0; index < NAMES.length; index++) {
                before[index] = x.paper() + " " + x.minutes() + " " + x.hour() + " " + x.poured()
                        + " " + x.editionCount() + " " + x.proofCount();
                MODIFICATIONS[index].of(x);
            }
            for (int index = NAMES.length - 1; index >= NAMES.length - MOST_UNDOS; index--) {
                x.undo();
                String after = x.paper() + " " + x.minutes() + " " + x.hour() + " " + x.poured()
                        + " " + x.editionCount() + " " + x.proofCount();
                Check.due("after undo() of " + NAMES[index], after, before[index]);
            }
            Check.refused("undo() of the ninth", Check.STATE, x::undo);
        });
        Check.test("undo: a refused call is none of them, even if 8 are kept", () -> {
            for (int index = 0; index < REFUSED.length; index++) {
                InkPrintery x = Fixtures.lived();
                Twins.Call refused = REFUSED[index];
                String before = Fixtures.state(x);
                boolean threw = false;
                try {
                    refused.of(x);
                } catch (RuntimeException e) {
                    threw = true;
                }
                Check.due("refused call " + index + " threw", threw, true);
                Check.due("state after refused call " + index, Fixtures.state(x), before);
                Check.due("undos left", Fixtures.undosLeft(x), MOST_UNDOS);
                Check.due("state", Fixtures.state(x), undoneState());
            }
        });
        Check.test("undo: no other call is one of them", () -> {
            InkPrintery x = Fixtures.lived();
            x.save();
            x.writeWells();
            x.writeEdition(0);
            x.type('a');
            Check.due("isConsistent()", x.isConsistent(), true);
            Check.due("undos left", Fixtures.undosLeft(x), MOST_UNDOS);
            Check.due("state", Fixtures.state(x), undoneState());
        });
    }

    /** The state eight modifications back. */
    private static String undoneState() {
        InkPrintery x = Fixtures.lived();
        Fixtures.undosLeft(x);
        return Fixtures.state(x);
    }

    private static void undoOthers() {
        Check.test("undo: the text buffer is not undone", () -> {
            InkPrintery x = Fixtures.typing().get();
            x.undo();
            Check.due("type('l')", x.type('l'), 3);
            Check.due("execute()", x.execute(), 1);
            x.undo();
            Check.due("type('l') after undo of execute", x.type('l'), 1);
        });
        Check.test("undo: the error position, the failed command and the line are not undone", () -> {
            InkPrintery x = Fixtures.lived();
            x.addPaper(1);
            Fixtures.type(x, "all;all;drop 99");
            Check.refused("execute()", Check.STATE, x::execute);
            Fixtures.type(x, "all;");
            Check.refused("execute()", Check.ARGUMENT, x::execute);
            x.writeWells();
            String line = Fixtures.line(x, 23);
            Fixtures.undosLeft(x);
            Check.due("failedCommand()", x.failedCommand(), 2);
            Check.due("errorPosition()", x.errorPosition(), 4);
            Check.due("line", Fixtures.line(x, 23), line);
        });
        Check.test("undo: the snapshot stays", () -> {
            InkPrintery x = bought(3);
            x.save();
            Fixtures.undosLeft(x);
            x.restore();
            Check.due("paper()", x.paper(), sheets(3));
        });
    }

    private static void save() {
        Check.test("promise 52: returns the number of editions, 0 to 7", () -> {
            InkPrintery x = Fixtures.fresh();
            for (int count = 0; count <= 7; count++) {
                Fixtures.addEditions(x, count);
                Check.due("save()", x.save(), count);
                Check.due("restore()", x.restore(), count);
            }
        });
        Check.test("promise 52: changes nothing but the snapshot", () -> {
            InkPrintery x = Fixtures.lived();
            String before = Fixtures.state(x);
            x.save();
            Check.due("state", Fixtures.state(x), before);
            Check.due("undo()", x.undo(), MOST_UNDOS - 1);
        });
        Check.test("promise 52: replaces an earlier snapshot", () -> {
            InkPrintery x = bought(1);
            x.save();
            x.addPaper(10);
            x.save();
            x.addPaper(100);
            x.restore();
            Check.due("paper()", x.paper(), 11);
        });
        Check.test("promise 52: the snapshot holds all of the state", () -> {
            InkPrintery x = Fixtures.lived();
            String saved = Fixtures.state(x);
            x.save();
            for (Twins.Call modification : MODIFICATIONS) {
                modification.of(x);
            }
            x.restore();
            Check.due("state", Fixtures.state(x), saved);
        });
        Check.test("promise 52: of a full object", () -> {
            InkPrintery x = Fixtures.lived();
            for (int colour = 0; colour < Fixtures.COLOURS; colour++) {
                x.addInk(colour, 999 - x.ink(colour));
            }
            Fixtures.addPaper(x, 9999);
            Fixtures.addEditions(x, 7);
            Fixtures.addProofs(x, 12);
            String full = Fixtures.state(x);
            Check.due("save()", x.save(), 7);
            x.printAll();
            x.removeEdition(6);
            x.dropProof(11);
            Check.due("restore()", x.restore(), 7);
            Check.due("state", Fixtures.state(x), full);
        });
    }

    private static void restore() {
        Check.test("promise 53: refused if there is no snapshot", () -> {
            Twins.refuses(Fixtures::fresh, "restore()", Check.STATE, InkPrintery::restore);
            Supplier<InkPrintery> made = () -> {
                InkPrintery x = Fixtures.busy();
                Fixtures.type(x, "al");
                return x;
            };
            Twins.refuses(made, "restore()", Check.STATE, InkPrintery::restore);
        });
        Check.test("promise 53: the snapshot is kept", () -> {
            InkPrintery x = Fixtures.lived();
            for (int time = 0; time < 3; time++) {
                Check.due("restore()", x.restore(), 3);
                Check.due("state", Fixtures.state(x), "200 0 290 0 0 77 0 0 0 4 paper 50 hour 0"
                        + " press 2 minutes 12 poured 581 used 10 faded 0"
                        + " e5:0/20 e2:10/10 e9:0/30");
                x.printAll();
                x.addProof(1);
            }
        });
        Check.test("promise 53: a snapshot of a new object", () -> {
            InkPrintery x = Fixtures.fresh();
            x.save();
            x.addEdition(1, 1);
            x.pass(9);
            Check.due("restore()", x.restore(), 0);
            Check.due("state", Fixtures.state(x), Fixtures.state(Fixtures.fresh()));
        });
        Check.test("promise 53: buffer, error position, failed command and line are not restored",
                () -> {
            InkPrintery x = Fixtures.lived();
            Fixtures.type(x, "all;all;drop 99");
            Check.refused("execute()", Check.STATE, x::execute);
            Fixtures.type(x, "all;");
            Check.refused("execute()", Check.ARGUMENT, x::execute);
            Fixtures.type(x, "al");
            x.writeWells();
            String line = Fixtures.line(x, 23);
            x.restore();
            Check.due("failedCommand()", x.failedCommand(), 2);
            Check.due("errorPosition()", x.errorPosition(), 4);
            Check.due("line", Fixtures.line(x, 23), line);
            Check.due("type('l')", x.type('l'), 3);
        });
    }

    private static void restoreUndo() {
        Check.test("promise 53: afterwards nothing can be undone", () -> {
            Supplier<InkPrintery> restored = Fixtures.lived(InkPrintery::restore);
            Twins.refuses(restored, "undo()", Check.STATE, InkPrintery::undo);
            InkPrintery x = Fixtures.fresh();
            x.save();
            x.restore();
            Check.refused("undo()", Check.STATE, x::undo);
        });
        Check.test("promise 53: what comes later can be undone, up to 8, back to the snapshot",
                () -> {
            for (int count = 1; count <= 10; count++) {
                InkPrintery x = bought(20);
                x.save();
                x.addPaper(300);
                x.restore();
                for (int time = 0; time < count; time++) {
                    x.addPaper(1);
                }
                int undos = Math.min(count, MOST_UNDOS);
                Check.due("undos left", Fixtures.undosLeft(x), undos);
                Check.due("paper()", x.paper(), sheets(20) + count - undos);
            }
        });
    }
}
