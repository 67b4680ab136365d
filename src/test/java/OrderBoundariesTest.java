import java.util.NoSuchElementException;
import java.util.function.Supplier;

/** The boundaries that promises 22 to 27, the best order and the shares of paper name. */
public final class OrderBoundariesTest {
    private OrderBoundariesTest() {
    }

    public static void main(String[] args) {
        bestOrderTerms();
        minutesOf("promise 22: fewestMinutes", InkPrintery::fewestMinutes);
        minutesOf("promise 23: minutesByOrders", InkPrintery::minutesByOrders);
        editionAt();
        sharesOf("promise 25: shareOf", InkPrintery::shareOf);
        sharesOf("promise 26: shareByLevel", InkPrintery::shareByLevel);
        editionByMissing();
        Check.end();
    }

    /** A new object with a colour on the press, and editions of a copy each. */
    private static Supplier<InkPrintery> press(int press, int... colours) {
        return Fixtures.made(x -> {
            x.addInk(press, 1);
            x.addPaper(1);
            x.addEdition(press, 1);
            x.print(0);
            x.removeEdition(0);
            for (int colour : colours) {
                x.addEdition(colour, 1);
            }
        });
    }

    private static String order(InkPrintery x) {
        StringBuilder order = new StringBuilder();
        try {
            for (int position = 0; position <= 7; position++) {
                order.append(x.editionAt(position));
            }
        } catch (NoSuchElementException e) {
            return order.toString();
        }
        return order + " and so on";
    }

    private static void orderDue(String due, int minutes, int press, int... colours) {
        InkPrintery x = press(press, colours).get();
        Check.due("order", order(x), due);
        Check.due("fewestMinutes()", x.fewestMinutes(), minutes);
        Check.due("minutesByOrders()", x.minutesByOrders(), minutes);
    }

    private static void bestOrderTerms() {
        Check.test("best order: from the colour that is on the press now", () -> {
            orderDue("01", 3, 3, 5, 6);
            orderDue("10", 3 + 2, 6, 7, 5);
            orderDue("10", 9 + 11, 9, 0, 5);
            orderDue("01", 0 + 9, 0, 0, 9);
        });
        Check.test("best order: the fewest minutes of all, not of the next change", () -> {
            // From 3: 4, 0 takes 1 + 9, and 0, 4 takes 7 + 4.
            orderDue("10", 1 + 9, 3, 0, 4);
            // From 3: 5, 0 takes 2 + 11, and 0, 5 takes 7 + 5.
            orderDue("10", 7 + 5, 3, 5, 0);
        });
        Check.test("best order: of several, the number of the first edition is the lowest", () -> {
            orderDue("0", 4, 0, 4);
            orderDue("01", 4, 0, 4, 4);
            orderDue("0123456", 4, 0, 4, 4, 4, 4, 4, 4, 4);
            // From 9: 7, 8 takes 5 + 1, and 8, 7 takes 3 + 3.
            orderDue("01", 6, 9, 7, 8);
            orderDue("01", 6, 9, 8, 7);
        });
        Check.test("best order: then that of the second one, and so on", () -> {
            orderDue("012", 6, 9, 7, 7, 8);
            orderDue("021", 6, 9, 7, 8, 7);
            orderDue("012", 6, 9, 8, 7, 7);
            orderDue("1302", 2, 0, 2, 1, 2, 1);
            orderDue("6012345", 9, 0, 9, 9, 9, 9, 9, 9, 8);
            orderDue("0123465", 9, 0, 1, 2, 3, 4, 5, 9, 8);
        });
        Check.test("best order: after each edition that is added, removed or printed", () -> {
            InkPrintery x = Fixtures.fresh();
            int[] colours = {8, 3, 9, 2, 7, 5, 6};
            String[] grown = {"0", "10", "102", "3102", "31402", "315402", "3156402"};
            String[] shrunk = {"", "0", "10", "102", "3102", "31402", "315402"};
            x.addPaper(99);
            for (int edition = 0; edition < 7; edition++) {
                x.addEdition(colours[edition], 1);
                Check.due("order of " + edition, order(x), grown[edition]);
            }
            for (int edition = 6; edition >= 0; edition--) {
                x.removeEdition(edition);
                Check.due("order without " + edition, order(x), shrunk[edition]);
            }
            for (int colour : colours) {
                x.addInk(colour, 1);
                x.addEdition(colour, 1);
            }
            printEach(x);
        });
        Check.test("best order: what was the best before does not count", () -> {
            InkPrintery x = press(9, 7, 8, 0).get();
            Check.due("fewestMinutes()", x.fewestMinutes(), 3 + 3 + 15);
            Check.due("order", order(x), "102");
            x.removeEdition(2);
            // 7, 8 takes 5 + 1, and 8, 7 takes 3 + 3: as many, so the lowest number comes first.
            Check.due("fewestMinutes()", x.fewestMinutes(), 6);
            Check.due("order without the colour 0", order(x), "01");
        });
        Check.test("best order: the editions that are not complete", () -> {
            InkPrintery x = Fixtures.made(y -> complete(y, 7)).get();
            x.addEdition(7, 1);
            Check.due("order", order(x), "1");
            x.addInk(7, 1);
            x.addPaper(1);
            x.print(1);
            Check.due("order of complete ones", order(x), "");
        });
    }

    /** Prints what comes first, again and again: what is left keeps its order. */
    private static void printEach(InkPrintery x) {
        String due = "3156402";
        for (int printed = 0; printed < 7; printed++) {
            Check.due("order after " + printed + " printed", order(x), due.substring(printed));
            Check.due("fewestMinutes()", x.fewestMinutes(), x.minutesByOrders());
            x.print(x.editionAt(0));
        }
        Check.due("order when all is printed", order(x), "");
        Check.due("minutes()", x.minutes(), 9 + 7);
    }

    /** An edition of this colour that is complete. */
    private static void complete(InkPrintery x, int colour) {
        x.addInk(colour, 1);
        x.addPaper(1);
        int edition = x.addEdition(colour, 1);
        x.print(edition);
    }

    private static void minutesOf(String promise, Twins.Call minutes) {
        Check.test(promise + ", nothing to print", () -> {
            Twins.answers(Fixtures::fresh, "without editions", 0, minutes);
            Twins.answers(press(5), "without editions", 0, minutes);
            Twins.answers(Fixtures.made(x -> complete(x, 5)), "all complete", 0, minutes);
        });
        Check.test(promise + ", one edition", () -> {
            for (int press = 0; press < Fixtures.COLOURS; press++) {
                for (int colour = 0; colour < Fixtures.COLOURS; colour++) {
                    InkPrintery x = press(press, colour).get();
                    int due = x.changeMinutes(press, colour);
                    Check.due("from " + press + " to " + colour, minutes.of(x), due);
                }
            }
        });
        Check.test(promise + ", seven editions", () -> {
            Twins.answers(press(0, 3, 3, 3, 3, 3, 3, 3), "equal ones", 3, minutes);
            Twins.answers(press(0, 9, 8, 7, 6, 5, 4, 3), "from 0 up", 9, minutes);
            Twins.answers(press(9, 9, 8, 7, 6, 5, 4, 3), "from 9 to 3 and up", 13 + 5, minutes);
            Twins.answers(press(9, 9, 9, 9, 0, 0, 0, 0), "from 9 to 0", 19, minutes);
            Twins.answers(press(9, 6, 5, 4, 3, 2, 1, 0), "to 0 and up", 19 + 6, minutes);
            Twins.answers(press(1, 9, 0, 9, 0, 9, 0, 9), "to 0 and 9", 3 + 9, minutes);
        });
        Check.test(promise + ", copies take no minutes of it", () -> {
            InkPrintery x = Fixtures.fresh();
            x.addEdition(0, 50);
            Check.due("without a change", minutes.of(x), 0);
        });
    }

    private static void editionAt() {
        Check.test("promise 24: the position, from 0", () -> {
            for (int count = 1; count <= 7; count++) {
                int editions = count;
                Twins.range(Fixtures.made(x -> Fixtures.addEditions(x, editions)),
                        "editionAt(?) of " + count, 0, count - 1, Check.ELEMENT,
                        InkPrintery::editionAt);
            }
        });
        Check.test("promise 24: there is no such position", () -> {
            Twins.refusesOutside(Fixtures::fresh, "editionAt(?) without editions", 0, -1,
                    Check.ELEMENT, InkPrintery::editionAt);
            Twins.refusesOutside(Fixtures.made(x -> complete(x, 3)), "editionAt(?), all complete",
                    0, -1, Check.ELEMENT, InkPrintery::editionAt);
            // Of the four editions of this object, edition 1 is complete, and 3 of the others not.
            Twins.range(Fixtures.lived(x -> x.addEdition(1, 1)), "editionAt(?)", 0, 2,
                    Check.ELEMENT, InkPrintery::editionAt);
        });
        Check.test("promise 24: returns the number of the edition, complete ones counted", () -> {
            InkPrintery x = Fixtures.made(y -> complete(y, 0)).get();
            Check.due("addEdition(8, 1)", x.addEdition(8, 1), 1);
            Check.due("editionAt(0)", x.editionAt(0), 1);
        });
    }

    private static Supplier<InkPrintery> runs(int sheets, int... runs) {
        return Fixtures.made(x -> {
            Fixtures.addPaper(x, sheets);
            for (int run : runs) {
                x.addEdition(2, run);
            }
        });
    }

    private static void sharesDue(Twins.CallWith share, Supplier<InkPrintery> made, int... due) {
        for (int number = 0; number < due.length; number++) {
            int edition = number;
            Twins.answers(made, "the share of " + edition, due[edition], x -> share.of(x, edition));
        }
    }

    private static void sharesOf(String promise, Twins.CallWith share) {
        String name = promise.substring(promise.indexOf(": ") + 2);
        Check.test(promise + ", the number of the edition", () -> {
            for (int count : new int[] {1, 6, 7}) {
                Twins.range(Fixtures.made(x -> Fixtures.addEditions(x, count)),
                        name + "(?) of " + count, 0, count - 1, Check.INDEX, share);
            }
            Twins.refusesOutside(runs(9), name + "(?) of none", 0, -1, Check.INDEX, share);
        });
        Check.test(promise + ", no paper", () -> sharesDue(share, runs(0, 5, 1), 0, 0));
        Check.test(promise + ", to the lowest number of several", () -> {
            sharesDue(share, runs(1, 5, 5, 5), 1, 0, 0);
            sharesDue(share, runs(2, 5, 5, 5), 1, 1, 0);
            sharesDue(share, runs(3, 5, 5, 5), 1, 1, 1);
            sharesDue(share, runs(4, 5, 5, 5), 2, 1, 1);
            sharesDue(share, runs(1, 1, 50, 50), 1, 0, 0);
        });
        Check.test(promise + ", to those that have fewer sheets than missing copies", () -> {
            sharesDue(share, runs(4, 1, 5, 1), 1, 2, 1);
            sharesDue(share, runs(6, 1, 5, 5), 1, 3, 2);
            sharesDue(share, runs(6, 5, 5, 1), 3, 2, 1);
        });
        Check.test(promise + ", ends when there is no such edition", () -> {
            sharesDue(share, runs(10, 1, 5, 5), 1, 5, 4);
            sharesDue(share, runs(11, 1, 5, 5), 1, 5, 5);
            sharesDue(share, runs(12, 1, 5, 5), 1, 5, 5);
            sharesDue(share, runs(9999, 1, 5, 5), 1, 5, 5);
            sharesDue(share, runs(349, 50, 50, 50, 50, 50, 50, 50), 50, 50, 50, 50, 50, 50, 49);
            sharesDue(share, runs(350, 50, 50, 50, 50, 50, 50, 50), 50, 50, 50, 50, 50, 50, 50);
            sharesDue(share, runs(6, 50, 50, 50, 50, 50, 50, 50), 1, 1, 1, 1, 1, 1, 0);
        });
        Check.test(promise + ", of a complete edition 0", () -> {
            Supplier<InkPrintery> made = Fixtures.made(x -> {
                complete(x, 3);
                x.addEdition(3, 4);
                x.addPaper(3);
            });
            sharesDue(share, made, 0, 3);
            sharesDue(share, Fixtures.made(x -> {
                complete(x, 3);
                x.addPaper(9);
            }), 0);
        });
        Check.test(promise + ", of the missing copies, not of the run", () -> {
            Supplier<InkPrintery> made = Fixtures.made(x -> {
                x.addInk(3, 50);
                x.addPaper(4);
                x.addEdition(3, 5);
                x.print(0);
                x.addEdition(3, 5);
                x.addPaper(4);
            });
            sharesDue(share, made, 1, 3);
        });
    }

    private static void editionByMissing() {
        Check.test("promise 27: the rank, from 0", () -> {
            for (int count = 1; count <= 7; count++) {
                int editions = count;
                Twins.range(Fixtures.made(x -> Fixtures.addEditions(x, editions)),
                        "editionByMissing(?) of " + count, 0, count - 1, Check.ELEMENT,
                        InkPrintery::editionByMissing);
            }
        });
        Check.test("promise 27: without editions", () -> Twins.refusesOutside(Fixtures::fresh,
                "editionByMissing(?)", 0, -1, Check.ELEMENT, InkPrintery::editionByMissing));
        Check.test("promise 27: the most missing copies first", () -> {
            ranksDue(runs(0, 1, 2, 3, 4, 5, 6, 7), 6, 5, 4, 3, 2, 1, 0);
            ranksDue(runs(0, 50, 1, 49, 2, 48, 3, 47), 0, 2, 4, 6, 5, 3, 1);
        });
        Check.test("promise 27: with as many, ordered by their numbers", () -> {
            ranksDue(runs(0, 9, 9, 9, 9, 9, 9, 9), 0, 1, 2, 3, 4, 5, 6);
            ranksDue(runs(0, 8, 9, 8, 9, 8), 1, 3, 0, 2, 4);
        });
        Check.test("promise 27: missing copies, not the run; complete ones last", () -> {
            InkPrintery x = runs(5, 6, 2, 5, 1).get();
            x.addInk(2, 5);
            x.print(0);
            x.addPaper(1);
            ranksDue(() -> x, 2, 1, 0, 3);
            x.addInk(2, 1);
            Check.due("print(0)", x.print(0), 1);
            ranksDue(() -> x, 2, 1, 3, 0);
        });
    }

    private static void ranksDue(Supplier<InkPrintery> made, int... due) {
        for (int rank = 0; rank < due.length; rank++) {
            int got = made.get().editionByMissing(rank);
            Check.due("editionByMissing(" + rank + ")", got, due[rank]);
        }
    }
}
