import java.util.function.Supplier;

/** The boundaries that promises 11 to 21 and the terms of editions and the press name. */
public final class EditionBoundariesTest {
    private EditionBoundariesTest() {
    }

    public static void main(String[] args) {
        terms();
        addEdition();
        removeEdition();
        print();
        printRefused();
        printAll();
        printAllLeavesOut();
        questions();
        press();
        Check.end();
    }

    private static Supplier<InkPrintery> editions(int count) {
        return Fixtures.lived(x -> keepEditions(x, count));
    }

    private static void keepEditions(InkPrintery x, int count) {
        while (x.editionCount() > count) {
            x.removeEdition(0);
        }
        Fixtures.addEditions(x, count);
    }

    /** Seven editions of the colours 0 to 6, of which as many are printed, and one is missing. */
    private static InkPrintery seven() {
        InkPrintery x = Fixtures.fresh();
        x.addPaper(99);
        for (int edition = 0; edition < 7; edition++) {
            x.addEdition(edition, edition + 1);
            if (edition > 0) {
                x.addInk(edition, edition);
                x.print(edition);
            }
        }
        return x;
    }

    private static String colours(InkPrintery x) {
        StringBuilder colours = new StringBuilder();
        for (int edition = 0; edition < x.editionCount(); edition++) {
            colours.append(x.colourOf(edition));
            Check.due("runOf(" + edition + ")", x.runOf(edition), x.colourOf(edition) + 1);
            Check.due("printedOf(" + edition + ")", x.printedOf(edition), x.colourOf(edition));
        }
        return colours.toString();
    }

    private static void terms() {
        Check.test("editions: at most 7, numbered in the order in which they were added", () -> {
            InkPrintery x = seven();
            Check.due("editionCount()", x.editionCount(), 7);
            Check.due("colours", colours(x), "0123456");
            Check.refused("the eighth", Check.STATE, () -> x.addEdition(7, 8));
            Check.due("colours", colours(x), "0123456");
        });
        Check.test("editions: one is removed, the numbers of the later ones decrease", () -> {
            String[] due = {"123456", "023456", "013456", "012456", "012356", "012346", "012345"};
            for (int edition = 0; edition < 7; edition++) {
                InkPrintery x = seven();
                Check.due("removeEdition(" + edition + ")", x.removeEdition(edition), 6);
                Check.due("colours", colours(x), due[edition]);
                Check.due("addEdition(0, 1)", x.addEdition(0, 1), 6);
                Check.due("colours", colours(x), due[edition] + "0");
            }
        });
        Check.test("editions: of a run, at first none is printed", () -> {
            InkPrintery x = Fixtures.lived();
            Check.due("printedOf(1)", x.printedOf(1), 10);
            while (x.editionCount() > 0) {
                x.removeEdition(0);
            }
            for (int edition = 0; edition < 7; edition++) {
                x.addEdition(1, 50);
                Check.due("printedOf(" + edition + ")", x.printedOf(edition), 0);
            }
        });
        Check.test("editions: complete when all copies are printed", EditionBoundariesTest::completes);
    }

    private static void completes() {
        for (int run : new int[] {1, 2, 50}) {
            InkPrintery x = Fixtures.fresh();
            x.addInk(4, run);
            x.addEdition(4, run);
            for (int printed = 0; printed < run; printed++) {
                Check.due("isComplete(0) with " + printed, x.isComplete(0), false);
                Check.due("missing", x.shareOf(0), 0);
                x.addPaper(1);
                Check.due("print(0)", x.print(0), 1);
                Check.due("printedOf(0)", x.printedOf(0), printed + 1);
            }
            Check.due("isComplete(0) with " + run, x.isComplete(0), true);
        }
    }

    private static void addEdition() {
        Check.test("promise 11: its colour, 0 to 9", () -> Twins.range(Fixtures.typing(),
                "addEdition(?, 1)", 0, 9, Check.ARGUMENT, (x, colour) -> x.addEdition(colour, 1)));
        Check.test("promise 11: its run, 1 to 50", () -> Twins.range(Fixtures.typing(),
                "addEdition(3, ?)", 1, 50, Check.ARGUMENT, (x, copies) -> x.addEdition(3, copies)));
        Check.test("promise 11: returns the number of the edition", () -> {
            for (int count = 0; count < 7; count++) {
                int number = editions(count).get().addEdition(9, 50);
                Check.due("addEdition(9, 50) with " + count, number, count);
            }
        });
        Check.test("promise 11: refused if there are 7 editions", () -> {
            Twins.refuses(editions(7), "addEdition(3, 1) with 7", Check.STATE,
                    x -> x.addEdition(3, 1));
            InkPrintery x = editions(7).get();
            x.removeEdition(6);
            Check.due("addEdition(3, 1) with 6 again", x.addEdition(3, 1), 6);
        });
        Check.test("promise 11: of several exceptions the first", () -> {
            Twins.refusesOutside(editions(7), "addEdition(?, 1) with 7", 0, 9, Check.ARGUMENT,
                    (x, colour) -> x.addEdition(colour, 1));
            Twins.refusesOutside(editions(7), "addEdition(3, ?) with 7", 1, 50, Check.ARGUMENT,
                    (x, copies) -> x.addEdition(3, copies));
        });
    }

    private static void removeEdition() {
        Check.test("promise 12: the number of the edition", () -> {
            for (int count : new int[] {1, 2, 6, 7}) {
                Twins.range(editions(count), "removeEdition(?) of " + count, 0, count - 1,
                        Check.INDEX, InkPrintery::removeEdition);
            }
        });
        Check.test("promise 12: without editions", () -> Twins.refusesOutside(editions(0),
                "removeEdition(?) of none", 0, -1, Check.INDEX, InkPrintery::removeEdition));
        Check.test("promise 12: returns the number of editions that are left", () -> {
            InkPrintery x = seven();
            for (int left = 6; left >= 0; left--) {
                Check.due("removeEdition(" + left + ")", x.removeEdition(left), left);
                Check.due("editionCount()", x.editionCount(), left);
            }
        });
        Check.test("promise 12: what was printed stays in the accounts", () -> {
            InkPrintery x = Fixtures.lived();
            String before = accounts(x);
            x.removeEdition(1);
            x.removeEdition(0);
            Check.due("accounts", accounts(x), before);
        });
    }

    private static String accounts(InkPrintery x) {
        return x.paper() + " " + x.minutes() + " " + x.used() + " " + x.poured() + " " + x.faded()
                + " " + x.inkInWells() + " " + x.pressColour() + " " + x.hour();
    }

    /** An edition of colour 3, with sheets and units of its colour. */
    private static Supplier<InkPrintery> ready(int run, int sheets, int units) {
        return Fixtures.made(x -> {
            Fixtures.addPaper(x, sheets);
            if (units > 0) {
                x.addInk(3, units);
            }
            x.addInk(2, 50);
            x.addInk(4, 50);
            x.addEdition(3, run);
        });
    }

    private static void printed(int run, int sheets, int units, int due) {
        String call = "print(0) of " + run + " with " + sheets + " sheets and " + units + " units";
        InkPrintery x = ready(run, sheets, units).get();
        Check.due(call, x.print(0), due);
        Check.due("paper() after " + call, x.paper(), sheets - due);
        Check.due("ink(3) after " + call, x.ink(3), units - due);
        Check.due("used() after " + call, x.used(), due);
        Check.due("minutes() after " + call, x.minutes(), 3 + due);
        Check.due("pressColour() after " + call, x.pressColour(), 3);
        Check.due("printedOf(0) after " + call, x.printedOf(0), due);
        Check.due("isComplete(0) after " + call, x.isComplete(0), due == run);
    }

    private static void print() {
        Check.test("promise 13: as many missing copies as there is paper for", () -> {
            printed(5, 1, 50, 1);
            printed(5, 4, 50, 4);
            printed(5, 5, 50, 5);
            printed(5, 6, 50, 5);
            printed(50, 9999, 999, 50);
        });
        Check.test("promise 13: as many missing copies as there is ink for", () -> {
            printed(5, 50, 1, 1);
            printed(5, 50, 4, 4);
            printed(5, 50, 5, 5);
            printed(5, 50, 6, 5);
            printed(1, 1, 1, 1);
        });
        Check.test("promise 13: the less of paper and ink", () -> {
            printed(5, 3, 4, 3);
            printed(5, 4, 3, 3);
            printed(5, 4, 4, 4);
        });
        Check.test("promise 13: the missing copies, not the run", () -> {
            InkPrintery x = ready(5, 3, 50).get();
            x.print(0);
            x.addPaper(50);
            Check.due("print(0) again", x.print(0), 2);
            Check.due("minutes()", x.minutes(), 3 + 3 + 2);
        });
        Check.test("promise 13: the press has its colour afterwards", () -> {
            InkPrintery x = Fixtures.fresh();
            x.addPaper(9);
            int[] colours = {0, 9, 9, 0, 1, 0};
            int[] minutes = {1, 1 + 9, 1, 1 + 19, 1 + 1, 1 + 3};
            for (int index = 0; index < colours.length; index++) {
                x.addInk(colours[index], 1);
                x.addEdition(colours[index], 1);
                int before = x.minutes();
                x.print(index);
                Check.due("pressColour()", x.pressColour(), colours[index]);
                Check.due("minutes() of " + index, x.minutes() - before, minutes[index]);
            }
        });
    }

    private static void printRefused() {
        Check.test("promise 13: the number of the edition", () -> {
            for (int count : new int[] {1, 6, 7}) {
                Supplier<InkPrintery> made = Fixtures.lived(x -> {
                    x.addInk(4, 50);
                    x.addPaper(50);
                    keepEditions(x, 0);
                    keepEditions(x, count);
                });
                Twins.range(made, "print(?) of " + count, 0, count - 1, Check.INDEX,
                        InkPrintery::print);
            }
        });
        Check.test("promise 13: without editions, paper and ink the first exception", () ->
                Twins.refusesOutside(Fixtures::fresh, "print(?) of none", 0, -1, Check.INDEX,
                        InkPrintery::print));
        Check.test("promise 13: refused if it is complete", () -> {
            Twins.refuses(Fixtures.typing(), "print(1)", Check.STATE, x -> x.print(1));
            Check.due("print(2) with a copy missing",
                    Fixtures.lived(x -> x.addInk(9, 25)).get().print(2), 13);
        });
        Check.test("promise 13: complete, and no paper or no ink: the first exception", () -> {
            Twins.refuses(Fixtures.made(x -> complete(x, 5, 9)), "print(0) without paper",
                    Check.STATE, x -> x.print(0));
            Twins.refuses(Fixtures.made(x -> complete(x, 9, 5)), "print(0) without ink",
                    Check.STATE, x -> x.print(0));
            Twins.refuses(Fixtures.made(x -> complete(x, 5, 5)), "print(0) without both",
                    Check.STATE, x -> x.print(0));
        });
        Check.test("promise 13: refused if there is no paper", () -> {
            Twins.refuses(ready(5, 0, 5), "print(0)", Check.UNSUPPORTED, x -> x.print(0));
            Check.due("print(0) with a sheet", ready(5, 1, 5).get().print(0), 1);
        });
        Check.test("promise 13: refused if there is no ink of its colour", () -> {
            Twins.refuses(ready(5, 5, 0), "print(0)", Check.UNSUPPORTED, x -> x.print(0));
            Twins.refuses(ready(5, 0, 0), "print(0)", Check.UNSUPPORTED, x -> x.print(0));
            Check.due("print(0) with a unit", ready(5, 5, 1).get().print(0), 1);
        });
    }

    /** An edition of five copies that is complete. */
    private static void complete(InkPrintery x, int sheets, int units) {
        x.addPaper(sheets);
        x.addInk(6, units);
        x.addEdition(6, 5);
        x.print(0);
    }

    private static void printsNothing(String when, Supplier<InkPrintery> made) {
        InkPrintery x = made.get();
        String before = Fixtures.state(x);
        Check.due("printAll() " + when, x.printAll(), 0);
        Check.due("state " + when, Fixtures.state(x), before);
    }

    private static void printAll() {
        Check.test("promise 14: nothing to print", () -> {
            printsNothing("of a new object", Fixtures::fresh);
            printsNothing("without editions", editions(0));
            printsNothing("of a complete edition", Fixtures.made(x -> complete(x, 9, 9)));
            printsNothing("without paper", ready(5, 0, 9));
            printsNothing("without ink", ready(5, 9, 0));
            printsNothing("without both", ready(5, 0, 0));
        });
        Check.test("promise 14: the share of paper, or as far as there is ink", () -> {
            // The shares of five sheets are 3 and 2.
            int[] units = {1, 2, 3, 4, 5, 6};
            int[] first = {1, 2, 3, 3, 3, 3};
            int[] second = {0, 0, 0, 1, 2, 2};
            for (int index = 0; index < units.length; index++) {
                InkPrintery x = ready(4, 5, units[index]).get();
                x.addEdition(3, 4);
                int due = first[index] + second[index];
                Check.due("printAll() with " + units[index] + " units", x.printAll(), due);
                Check.due("printedOf(0)", x.printedOf(0), first[index]);
                Check.due("printedOf(1)", x.printedOf(1), second[index]);
                Check.due("minutes()", x.minutes(), 3 + due);
                Check.due("paper()", x.paper(), 5 - due);
            }
        });
        Check.test("promise 14: the share now, although others leave paper", () -> {
            InkPrintery x = ready(10, 9, 1).get();
            x.addEdition(4, 10);
            Check.due("printAll()", x.printAll(), 1 + 4);
            Check.due("paper()", x.paper(), 4);
            Check.due("printAll() again", x.printAll(), 2);
        });
        Check.test("promise 14: in their best order, seven of them", () -> {
            InkPrintery x = Fixtures.fresh();
            x.addPaper(350);
            int[] colours = {9, 0, 8, 1, 9, 2, 8};
            for (int colour : colours) {
                x.addEdition(colour, 50);
            }
            for (int colour : new int[] {0, 1, 2, 8, 9}) {
                x.addInk(colour, 100);
            }
            Check.due("printAll()", x.printAll(), 350);
            Check.due("minutes()", x.minutes(), 350 + 9);
            Check.due("pressColour()", x.pressColour(), 9);
            Check.due("paper()", x.paper(), 0);
            printsNothing("when all is printed", () -> x);
        });
        Check.test("promise 14: several editions take ink of a well one after the other", () -> {
            InkPrintery x = ready(5, 50, 7).get();
            x.addEdition(3, 5);
            x.addEdition(3, 5);
            Check.due("printAll()", x.printAll(), 7);
            Check.due("printedOf(0)", x.printedOf(0), 5);
            Check.due("printedOf(1)", x.printedOf(1), 2);
            Check.due("printedOf(2)", x.printedOf(2), 0);
        });
    }

    private static void printAllLeavesOut() {
        Check.test("promise 14: no change of the colour for an edition without ink", () -> {
            InkPrintery x = Fixtures.fresh();
            x.addInk(1, 9);
            x.addInk(3, 9);
            x.addPaper(50);
            x.addEdition(3, 2);
            x.addEdition(9, 2);
            x.addEdition(2, 2);
            x.addEdition(1, 2);
            Check.due("printAll()", x.printAll(), 4);
            Check.due("minutes()", x.minutes(), 1 + 2 + 2 + 2);
            Check.due("pressColour()", x.pressColour(), 3);
            // To 2 and to 9 it would take 3 and 7 minutes.
            Check.due("printAll() of those without ink", x.printAll(), 0);
            Check.due("pressColour()", x.pressColour(), 3);
            Check.due("minutes()", x.minutes(), 7);
        });
        Check.test("promise 14: no change of the colour for an edition without paper", () -> {
            InkPrintery x = Fixtures.fresh();
            x.addInk(1, 9);
            x.addInk(5, 9);
            x.addInk(7, 9);
            x.addPaper(2);
            x.addEdition(7, 9);
            x.addEdition(5, 9);
            x.addEdition(1, 9);
            // The shares are 1, 1 and 0; the best order would have been 2, 1, 0.
            Check.due("printAll()", x.printAll(), 2);
            Check.due("printedOf(2)", x.printedOf(2), 0);
            Check.due("minutes()", x.minutes(), 5 + 1 + 2 + 1);
            Check.due("pressColour()", x.pressColour(), 7);
        });
        Check.test("promise 14: complete editions are not printed", () -> {
            InkPrintery x = Fixtures.made(y -> complete(y, 9, 9)).get();
            x.addEdition(7, 1);
            x.addInk(7, 1);
            Check.due("printAll()", x.printAll(), 1);
            Check.due("printedOf(0)", x.printedOf(0), 5);
            Check.due("minutes()", x.minutes(), 6 + 5 + 1 + 1);
        });
        Check.test("promise 14: it can be undone, even if nothing was printed", () -> {
            InkPrintery x = Fixtures.fresh();
            x.printAll();
            Check.due("undo()", x.undo(), 0);
            Check.refused("undo()", Check.STATE, x::undo);
        });
    }

    private static void questions() {
        Check.test("promise 15: from 0 to 7 editions", () -> {
            for (int count = 0; count <= 7; count++) {
                Twins.answers(editions(count), "editionCount()", count, InkPrintery::editionCount);
            }
        });
        numbers("promise 16: colourOf", InkPrintery::colourOf);
        numbers("promise 17: runOf", InkPrintery::runOf);
        numbers("promise 18: printedOf", InkPrintery::printedOf);
        numbers("promise 19: isComplete", (x, edition) -> x.isComplete(edition) ? 1 : 0);
        Check.test("promises 16 to 19: the ends of what they answer", () -> {
            Supplier<InkPrintery> made = Fixtures.made(x -> {
                x.addInk(9, 999);
                x.addPaper(50);
                x.addEdition(9, 50);
                x.addEdition(0, 1);
                x.print(0);
            });
            Twins.answers(made, "colourOf(0)", 9, x -> x.colourOf(0));
            Twins.answers(made, "colourOf(1)", 0, x -> x.colourOf(1));
            Twins.answers(made, "runOf(0)", 50, x -> x.runOf(0));
            Twins.answers(made, "runOf(1)", 1, x -> x.runOf(1));
            Twins.answers(made, "printedOf(0)", 50, x -> x.printedOf(0));
            Twins.answers(made, "printedOf(1)", 0, x -> x.printedOf(1));
            Twins.answers(made, "isComplete(0)", 1, x -> x.isComplete(0) ? 1 : 0);
            Twins.answers(made, "isComplete(1)", 0, x -> x.isComplete(1) ? 1 : 0);
        });
    }

    private static void numbers(String promise, Twins.CallWith question) {
        String name = promise.substring(promise.indexOf(": ") + 2);
        Check.test(promise + ", the number of the edition", () -> {
            for (int count : new int[] {1, 4, 7}) {
                Twins.range(editions(count), name + "(?) of " + count, 0, count - 1, Check.INDEX,
                        question);
            }
        });
        Check.test(promise + ", without editions", () -> Twins.refusesOutside(editions(0),
                name + "(?) of none", 0, -1, Check.INDEX, question));
    }

    private static void press() {
        Check.test("promise 20: the colour before, 0 to 9", () -> Twins.range(Fixtures.typing(),
                "changeMinutes(?, 3)", 0, 9, Check.ARGUMENT, (x, from) -> x.changeMinutes(from, 3)));
        Check.test("promise 20: the colour afterwards, 0 to 9", () -> Twins.range(Fixtures.typing(),
                "changeMinutes(3, ?)", 0, 9, Check.ARGUMENT, (x, to) -> x.changeMinutes(3, to)));
        Check.test("promise 20: to the same, a greater and a smaller colour", () -> {
            InkPrintery x = Fixtures.fresh();
            for (int colour = 0; colour < Fixtures.COLOURS; colour++) {
                Check.due("to the same", x.changeMinutes(colour, colour), 0);
            }
            for (int colour = 0; colour < 9; colour++) {
                Check.due("to the next", x.changeMinutes(colour, colour + 1), 1);
                Check.due("to the last", x.changeMinutes(colour + 1, colour), 3);
            }
            Check.due("changeMinutes(0, 9)", x.changeMinutes(0, 9), 9);
            Check.due("changeMinutes(9, 0)", x.changeMinutes(9, 0), 19);
        });
        Check.test("promise 21: from the colour 0 to the colour 9", () -> {
            Twins.answers(Fixtures::fresh, "pressColour()", 0, InkPrintery::pressColour);
            Supplier<InkPrintery> made = Fixtures.made(x -> {
                x.addInk(9, 1);
                x.addPaper(1);
                x.addEdition(9, 1);
                x.print(0);
            });
            Twins.answers(made, "pressColour()", 9, InkPrintery::pressColour);
        });
    }
}
