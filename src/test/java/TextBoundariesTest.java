import java.util.function.Supplier;

/** The boundaries that promises 47 to 50, the text and its grammar name. */
public final class TextBoundariesTest {
    // Each command with the most digits, and the lengths at which it could end before.
    private static final String[] LONGEST = {"ink 1 234", "paper 123", "edition 1 23", "remove 1",
        "print 1", "all", "hours 12", "proof 12", "drop 12"};
    private static final int[] SHORTEST = {7, 7, 11, 8, 7, 3, 7, 7, 6};
    private static final String FIFTEEN = "all;all;all;all;all;all;all;all;all;all;all;all;all;all;all";
    private static final String SIXTY =
            "paper 999;paper 999;paper 999;paper 999;paper 99;edition 1 5";

    private TextBoundariesTest() {
    }

    public static void main(String[] args) {
        type();
        execute();
        grammar();
        errorPositions();
        failures();
        allOrNone();
        errorPosition();
        failedCommand();
        Check.end();
    }

    private static Supplier<InkPrintery> text(int length) {
        return () -> {
            InkPrintery x = Fixtures.lived();
            Fixtures.type(x, SIXTY.substring(0, length));
            return x;
        };
    }

    private static void type() {
        Check.test("promise 47: refused if the character is not from 32 to 126", () -> {
            for (int sign : new int[] {0, 9, 10, 31, 127, 128, 160, 255, 256, 288, 65535}) {
                Twins.refuses(Fixtures.typing(), "type(" + sign + ")", Check.ARGUMENT,
                        x -> x.type((char) sign));
            }
        });
        Check.test("promise 47: each character from 32 to 126", () -> {
            for (char sign = 32; sign <= 126; sign++) {
                char typed = sign;
                InkPrintery x = Fixtures.fresh();
                Check.allowed("type(" + (int) sign + ")", () -> x.type(typed));
                Check.due("type('a') after it", x.type('a'), 2);
            }
        });
        Check.test("promise 47: returns the number of characters in the buffer", () -> {
            InkPrintery x = Fixtures.fresh();
            for (int length = 1; length <= 60; length++) {
                Check.due("type(' ')", x.type(' '), length);
            }
        });
        Check.test("promise 47: refused if the buffer contains 60 characters", () -> {
            Check.due("the 60th", text(59).get().type('5'), 60);
            Twins.refuses(text(60), "the 61st", Check.STATE, x -> x.type('5'));
            InkPrintery x = text(60).get();
            Check.refused("the 61st", Check.STATE, () -> x.type('0'));
            Check.due("execute() of 60 characters", x.execute(), 6);
            Check.due("runOf(4)", x.runOf(4), 5);
        });
        Check.test("promise 47: of several exceptions the first", () -> {
            for (int sign : new int[] {0, 31, 127, 65535}) {
                Twins.refuses(text(60), "type(" + sign + ") as the 61st", Check.ARGUMENT,
                        x -> x.type((char) sign));
            }
        });
    }

    private static void emptyAfterwards(InkPrintery x) {
        Check.due("type('a') afterwards", x.type('a'), 1);
    }

    private static void execute() {
        Check.test("promise 48: the buffer is empty afterwards", () -> {
            InkPrintery good = text(60).get();
            good.execute();
            emptyAfterwards(good);
            InkPrintery malformed = text(50).get();
            Check.refused("execute()", Check.ARGUMENT, malformed::execute);
            emptyAfterwards(malformed);
            InkPrintery failing = Fixtures.lived();
            Fixtures.type(failing, "print 9");
            Check.refused("execute()", Check.STATE, failing::execute);
            emptyAfterwards(failing);
        });
        Check.test("promise 48: an empty text is malformed", () -> {
            Twins.malformed(Fixtures::fresh, "", 0);
            Twins.malformed(Fixtures::lived, "", 0);
            InkPrintery x = Fixtures.fresh();
            Check.due("execute() of all", Fixtures.execute(x, "all"), 1);
            Check.refused("execute() of nothing", Check.ARGUMENT, x::execute);
        });
        Check.test("promise 48: returns the number of commands, 1 to 15", () -> {
            for (int count = 1; count <= 15; count++) {
                String text = FIFTEEN.substring(0, 4 * count - 1);
                InkPrintery x = Fixtures.lived();
                Check.due("execute() of " + text, Fixtures.execute(x, text), count);
            }
        });
        Check.test("promise 48: a text of 60 characters", () -> {
            InkPrintery x = Fixtures.fresh();
            Check.due("execute()", Fixtures.execute(x, SIXTY), 6);
            Check.due("paper()", x.paper(), 4 * 999 + 99);
            Check.due("runOf(0)", x.runOf(0), 5);
        });
        Check.test("promise 48: the commands are executed in order", () -> {
            InkPrintery x = Fixtures.fresh();
            Fixtures.execute(x, "proof 1;hours 1;proof 2;drop 0;hours 1;proof 3");
            Check.due("marksOf(0)", x.marksOf(0), 2);
            Check.due("hourOf(0)", x.hourOf(0), 1);
            Check.due("marksOf(1)", x.marksOf(1), 3);
            Check.due("hourOf(1)", x.hourOf(1), 2);
        });
    }

    private static void sameAs(String text, Twins.Call call) {
        InkPrintery one = ready();
        InkPrintery other = ready();
        Check.allowed("execute() of " + text, () -> Fixtures.execute(one, text));
        Check.allowed("the call for " + text, () -> call.of(other));
        Check.due("state after " + text, Fixtures.state(one), Fixtures.state(other));
    }

    /** Six editions and eleven proofs, with ink and paper. */
    private static InkPrintery ready() {
        InkPrintery x = Fixtures.lived();
        x.addInk(4, 9);
        Fixtures.addEditions(x, 6);
        for (int proof = 3; proof < 11; proof++) {
            x.addProof(proof);
        }
        return x;
    }

    private static void grammar() {
        Check.test("text: m is a blank and one to three decimal digits", () -> {
            sameAs("ink 6 1", x -> x.addInk(6, 1));
            sameAs("ink 6 01", x -> x.addInk(6, 1));
            sameAs("ink 6 001", x -> x.addInk(6, 1));
            sameAs("ink 6 99", x -> x.addInk(6, 99));
            sameAs("ink 6 999", x -> x.addInk(6, 999));
            sameAs("paper 1", x -> x.addPaper(1));
            sameAs("paper 010", x -> x.addPaper(10));
            sameAs("paper 999", x -> x.addPaper(999));
        });
        Check.test("text: n is a blank and one or two decimal digits", () -> {
            sameAs("edition 7 1", x -> x.addEdition(7, 1));
            sameAs("edition 7 01", x -> x.addEdition(7, 1));
            sameAs("edition 7 50", x -> x.addEdition(7, 50));
            sameAs("hours 1", x -> x.pass(1));
            sameAs("hours 01", x -> x.pass(1));
            sameAs("hours 48", x -> x.pass(48));
            sameAs("proof 0", x -> x.addProof(0));
            sameAs("proof 00", x -> x.addProof(0));
            sameAs("proof 99", x -> x.addProof(99));
            sameAs("drop 0", x -> x.dropProof(0));
            sameAs("drop 00", x -> x.dropProof(0));
            sameAs("drop 10", x -> x.dropProof(10));
        });
        Check.test("text: d is a blank and a decimal digit", () -> {
            sameAs("ink 0 9", x -> x.addInk(0, 9));
            sameAs("ink 9 9", x -> x.addInk(9, 9));
            sameAs("edition 0 9", x -> x.addEdition(0, 9));
            sameAs("edition 9 9", x -> x.addEdition(9, 9));
            sameAs("remove 0", x -> x.removeEdition(0));
            sameAs("remove 5", x -> x.removeEdition(5));
            sameAs("print 0", x -> x.print(0));
            sameAs("print 5", x -> x.print(5));
            sameAs("all", InkPrintery::printAll);
        });
    }

    /** Whether such a command could end at this length. */
    private static boolean isWhole(int command, int length) {
        return length >= SHORTEST[command];
    }

    private static void errorPositions() {
        Check.test("error position: the length, if the text ends too early", () -> {
            for (int command = 0; command < LONGEST.length; command++) {
                for (int length = 0; length < SHORTEST[command]; length++) {
                    String begun = LONGEST[command].substring(0, length);
                    Twins.malformed(Fixtures::lived, begun, length);
                    Twins.malformed(Fixtures::lived, "paper 999;" + begun, 10 + length);
                }
            }
        });
        Check.test("error position: the first character that cannot continue", () -> {
            for (String command : LONGEST) {
                for (int length = 0; length <= command.length(); length++) {
                    String begun = command.substring(0, length);
                    Twins.malformed(Fixtures::lived, begun + "~", length);
                    Twins.malformed(Fixtures::lived, "all;" + begun + "~;all", 4 + length);
                }
            }
        });
        Check.test("error position: a digit too many", () -> {
            for (String command : LONGEST) {
                Twins.malformed(Fixtures::lived, command + "0", command.length());
            }
            Twins.malformed(Fixtures::lived, "ink 12 3", 5);
            Twins.malformed(Fixtures::lived, "edition 12 3", 9);
        });
        Check.test("error position: a blank too many or none", () -> {
            for (int command = 0; command < LONGEST.length; command++) {
                String whole = LONGEST[command];
                int blank = whole.indexOf(' ');
                Twins.malformed(Fixtures::lived, " " + whole, 0);
                Twins.malformed(Fixtures::lived, whole + " ", whole.length());
                Twins.malformed(Fixtures::lived, "all; " + whole, 4);
                if (blank > 0) {
                    Twins.malformed(Fixtures::lived, whole.replace(" ", "  "), blank + 1);
                    Twins.malformed(Fixtures::lived, whole.replace(" ", ""), blank);
                }
            }
        });
        semicolonsAndDigits();
    }

    private static void semicolonsAndDigits() {
        Check.test("error position: a semicolon where none can stand", () -> {
            for (int command = 0; command < LONGEST.length; command++) {
                String whole = LONGEST[command];
                Twins.malformed(Fixtures::lived, ";" + whole, 0);
                Twins.malformed(Fixtures::lived, whole + ";", whole.length() + 1);
                Twins.malformed(Fixtures::lived, whole + ";;all", whole.length() + 1);
                for (int length = 1; length < whole.length(); length++) {
                    if (!isWhole(command, length)) {
                        Twins.malformed(Fixtures::lived, whole.substring(0, length) + ";", length);
                    }
                }
            }
        });
        Check.test("error position: the characters beside the digits 0 and 9", () -> {
            for (String sign : new String[] {"/", ":"}) {
                Twins.malformed(Fixtures::lived, "paper " + sign, 6);
                Twins.malformed(Fixtures::lived, "paper 1" + sign, 7);
                Twins.malformed(Fixtures::lived, "remove " + sign, 7);
                Twins.malformed(Fixtures::lived, "hours 4" + sign, 7);
            }
        });
        Check.test("error position: words that begin alike, and words in capitals", () -> {
            Twins.malformed(Fixtures::lived, "pa", 2);
            Twins.malformed(Fixtures::lived, "pri", 3);
            Twins.malformed(Fixtures::lived, "pro", 3);
            Twins.malformed(Fixtures::lived, "pint 1", 1);
            Twins.malformed(Fixtures::lived, "prper 1", 2);
            Twins.malformed(Fixtures::lived, "proont 1", 4);
            Twins.malformed(Fixtures::lived, "priof 1", 3);
            Twins.malformed(Fixtures::lived, "ALL", 0);
            Twins.malformed(Fixtures::lived, "alL", 2);
        });
        Check.test("error position: of a text of 60 characters", () -> {
            Twins.malformed(Fixtures::lived, FIFTEEN + ";", 60);
            Twins.malformed(Fixtures::lived, FIFTEEN + "~", 59);
            Twins.malformed(Fixtures::lived, SIXTY.substring(0, 59) + "~", 59);
            Twins.malformed(Fixtures::lived, "~" + SIXTY.substring(1), 0);
        });
    }

    private static void fails(String text) {
        Twins.fails(Fixtures::lived, text, 0);
        Twins.fails(Fixtures::lived, "proof 5;drop 0;" + text, 2);
        Twins.fails(Fixtures::lived, "drop 2;" + text + ";paper 5", 1);
    }

    private static void failures() {
        Check.test("promise 48: a command fails if a parameter is out of range", () -> {
            for (String text : new String[] {"ink 3 0", "ink 3 00", "ink 3 000", "paper 0",
                "edition 3 0", "edition 3 51", "edition 3 99", "hours 0", "hours 00", "hours 49",
                "hours 99"}) {
                fails(text);
            }
        });
        Check.test("promise 48: a command fails if there is no such edition or proof", () -> {
            for (String text : new String[] {"remove 4", "remove 9", "print 4", "print 9",
                "drop 3", "drop 03", "drop 99"}) {
                fails(text);
            }
        });
        Check.test("promise 48: a command fails if its method would throw otherwise", () -> {
            fails("ink 5 941");
            // Edition 1 is complete, and there is no ink for edition 2.
            fails("print 1");
            fails("print 2");
            Twins.fails(Fixtures::fresh, "ink 1 9;edition 1 9;print 0", 2);
            Twins.fails(Fixtures::fresh, "paper 9;edition 1 9;print 0", 2);
        });
        Check.test("promise 48: a command fails if something is full", () -> {
            Twins.fails(Fixtures::lived, "ink 5 940;ink 5 1", 1);
            String editions = "edition 1 1;edition 1 1;edition 1 1";
            Twins.fails(Fixtures::lived, editions + ";edition 1 1", 3);
            Check.due("execute() of three", Fixtures.execute(Fixtures.lived(), editions), 3);
            Supplier<InkPrintery> eleven = Fixtures.made(x -> Fixtures.addProofs(x, 11));
            Twins.fails(eleven, "proof 1;proof 2", 1);
            Check.due("execute() of one", Fixtures.execute(eleven.get(), "proof 1"), 1);
            Supplier<InkPrintery> store = Fixtures.made(x -> Fixtures.addPaper(x, 9000));
            Twins.fails(store, "paper 999;paper 1", 1);
            Check.due("execute() of one", Fixtures.execute(store.get(), "paper 999"), 1);
        });
        Check.test("promise 48: a malformed text is refused before a command fails", () -> {
            Twins.malformed(Fixtures::lived, "print 9;", 8);
            Twins.malformed(Fixtures::lived, "paper 0;~", 8);
        });
    }

    private static void allOrNone() {
        Check.test("promise 48: the effects of the commands before are taken back", () -> {
            Twins.fails(Fixtures::lived, "ink 3 9;print 9", 1);
            Twins.fails(Fixtures::lived, "paper 9;print 9", 1);
            Twins.fails(Fixtures::lived, "edition 1 9;print 9", 1);
            Twins.fails(Fixtures::lived, "remove 0;print 9", 1);
            Twins.fails(Fixtures::lived, "print 3;print 9", 0);
            Twins.fails(Fixtures::lived, "print 0;print 9", 1);
            Twins.fails(Fixtures::lived, "all;print 9", 1);
            Twins.fails(Fixtures::lived, "hours 48;print 9", 1);
            Twins.fails(Fixtures::lived, "proof 9;print 9", 1);
            Twins.fails(Fixtures::lived, "drop 0;print 9", 1);
        });
        Check.test("promise 48: as the last of fourteen, more than that can't end in one", () -> {
            Twins.fails(Fixtures::fresh, FIFTEEN.substring(0, 52) + "drop 9", 13);
            Twins.fails(Fixtures::lived, FIFTEEN.substring(0, 52) + "paper 0", 13);
        });
        Check.test("promise 48: a command may need those before it", () -> {
            InkPrintery x = Fixtures.fresh();
            String text = "ink 1 2;paper 2;edition 1 2;print 0;remove 0;proof 1;drop 0";
            Check.due("execute()", Fixtures.execute(x, text), 7);
            Check.due("state", Fixtures.state(x), "0 0 0 0 0 0 0 0 0 0 paper 0 hour 0 press 1"
                    + " minutes 3 poured 2 used 2 faded 0");
        });
        Check.test("promise 48: it is one modification", () -> {
            InkPrintery x = Fixtures.fresh();
            Fixtures.execute(x, FIFTEEN);
            Check.due("undo()", x.undo(), 0);
            Check.refused("undo()", Check.STATE, x::undo);
        });
        Check.test("promise 48: the line stays", () -> {
            InkPrintery x = Fixtures.lived();
            Fixtures.execute(x, "remove 2;all");
            Check.due("line", Fixtures.line(x, 8), "2c9:4/30");
        });
    }

    private static void errorPosition() {
        Check.test("promise 49: refused if no text was malformed so far", () -> {
            Twins.refuses(Fixtures::fresh, "errorPosition()", Check.ELEMENT,
                    InkPrintery::errorPosition);
            InkPrintery x = Fixtures.fresh();
            Fixtures.execute(x, "all");
            Check.refused("after a good text", Check.ELEMENT, x::errorPosition);
            Fixtures.type(x, "drop 0");
            Check.refused("execute()", Check.STATE, x::execute);
            Check.refused("after a failing text", Check.ELEMENT, x::errorPosition);
            Check.refused("execute() of nothing", Check.ARGUMENT, x::execute);
            Check.due("after an empty text", x.errorPosition(), 0);
        });
        Check.test("promise 49: of the last malformed text", () -> {
            InkPrintery x = Fixtures.fresh();
            Fixtures.type(x, "all;");
            Check.refused("execute()", Check.ARGUMENT, x::execute);
            Check.due("errorPosition()", x.errorPosition(), 4);
            Fixtures.execute(x, "all");
            Fixtures.type(x, "drop 0");
            Check.refused("execute()", Check.STATE, x::execute);
            Check.due("errorPosition() after others", x.errorPosition(), 4);
            Fixtures.type(x, "p");
            Check.due("errorPosition() before execute()", x.errorPosition(), 4);
            Check.refused("execute()", Check.ARGUMENT, x::execute);
            Check.due("errorPosition() of the last", x.errorPosition(), 1);
        });
    }

    private static void failedCommand() {
        Check.test("promise 50: refused if no command failed so far", () -> {
            Twins.refuses(Fixtures::fresh, "failedCommand()", Check.ELEMENT,
                    InkPrintery::failedCommand);
            InkPrintery x = Fixtures.fresh();
            Fixtures.execute(x, "all");
            Check.refused("drop(0)", Check.INDEX, () -> x.dropProof(0));
            Fixtures.type(x, "drop 0;");
            Check.refused("execute()", Check.ARGUMENT, x::execute);
            Check.refused("after a malformed text", Check.ELEMENT, x::failedCommand);
            Fixtures.type(x, "drop 0");
            Check.refused("execute()", Check.STATE, x::execute);
            Check.due("failedCommand()", x.failedCommand(), 0);
        });
        Check.test("promise 50: of the last text that had one", () -> {
            InkPrintery x = Fixtures.fresh();
            Fixtures.type(x, "all;all;drop 0;print 0");
            Check.refused("execute()", Check.STATE, x::execute);
            Check.due("failedCommand()", x.failedCommand(), 2);
            Fixtures.execute(x, "all;all;all;all");
            Check.refused("execute() of nothing", Check.ARGUMENT, x::execute);
            Check.due("failedCommand() after others", x.failedCommand(), 2);
            Fixtures.type(x, "all;paper 0");
            Check.refused("execute()", Check.STATE, x::execute);
            Check.due("failedCommand() of the last", x.failedCommand(), 1);
        });
    }
}
