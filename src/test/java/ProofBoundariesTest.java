import java.util.function.Supplier;

/** The boundaries that promises 28 to 35 and the terms of proofs name. */
public final class ProofBoundariesTest {
    private ProofBoundariesTest() {
    }

    public static void main(String[] args) {
        terms();
        addProof();
        dropProof();
        questions();
        riseTerms();
        lengthOf("promise 33: longestRise", InkPrintery::longestRise);
        lengthOf("promise 34: riseByEnds", InkPrintery::riseByEnds);
        riseCount();
        Check.end();
    }

    private static Supplier<InkPrintery> proofs(int count) {
        return Fixtures.lived(x -> {
            while (x.proofCount() > count) {
                x.dropProof(0);
            }
            Fixtures.addProofs(x, count);
        });
    }

    /** Twelve proofs with the marks 0 to 11, each made an hour later than the one before. */
    private static InkPrintery twelve() {
        InkPrintery x = Fixtures.fresh();
        for (int proof = 0; proof < 12; proof++) {
            x.addProof(proof);
            x.pass(1);
        }
        return x;
    }

    private static String marks(InkPrintery x) {
        StringBuilder marks = new StringBuilder();
        for (int proof = 0; proof < x.proofCount(); proof++) {
            marks.append(x.marksOf(proof)).append(' ');
            Check.due("hourOf(" + proof + ")", x.hourOf(proof), x.marksOf(proof));
        }
        return marks.toString();
    }

    private static void terms() {
        Check.test("proofs: at most 12, numbered in the order in which they were made", () -> {
            InkPrintery x = twelve();
            Check.due("proofCount()", x.proofCount(), 12);
            Check.due("marks", marks(x), "0 1 2 3 4 5 6 7 8 9 10 11 ");
            Check.refused("the 13th", Check.STATE, () -> x.addProof(12));
            Check.due("marks", marks(x), "0 1 2 3 4 5 6 7 8 9 10 11 ");
        });
        Check.test("proofs: one is dropped, the numbers of the later ones decrease", () -> {
            String all = "0 1 2 3 4 5 6 7 8 9 10 11 ";
            for (int proof = 0; proof < 12; proof++) {
                InkPrintery x = twelve();
                Check.due("dropProof(" + proof + ")", x.dropProof(proof), 11);
                String due = (" " + all).replace(" " + proof + " ", " ").substring(1);
                Check.due("marks", marks(x), due);
                Check.due("addProof(12)", x.addProof(12), 11);
                Check.due("marks", marks(x), due + "12 ");
            }
        });
        Check.test("proofs: the hour in which it was made stays", () -> {
            InkPrintery x = Fixtures.withProofs(99);
            x.pass(48);
            x.addProof(0);
            x.pass(48);
            Check.due("hourOf(0)", x.hourOf(0), 0);
            Check.due("hourOf(1)", x.hourOf(1), 48);
        });
    }

    private static void addProof() {
        Check.test("promise 28: the number of its marks, 0 to 99", () -> Twins.range(
                Fixtures.typing(), "addProof(?)", 0, 99, Check.ARGUMENT, InkPrintery::addProof));
        Check.test("promise 28: returns the number of the proof", () -> {
            for (int count = 0; count < 12; count++) {
                int number = proofs(count).get().addProof(99);
                Check.due("addProof(99) with " + count, number, count);
            }
        });
        Check.test("promise 28: refused if there are 12 proofs", () -> {
            Twins.refuses(proofs(12), "addProof(0) with 12", Check.STATE, x -> x.addProof(0));
            InkPrintery x = proofs(12).get();
            x.dropProof(11);
            Check.due("addProof(0) with 11 again", x.addProof(0), 11);
        });
        Check.test("promise 28: of several exceptions the first", () -> Twins.refusesOutside(
                proofs(12), "addProof(?) with 12", 0, 99, Check.ARGUMENT, InkPrintery::addProof));
    }

    private static void dropProof() {
        Check.test("promise 29: the number of the proof", () -> {
            for (int count : new int[] {1, 2, 11, 12}) {
                Twins.range(proofs(count), "dropProof(?) of " + count, 0, count - 1, Check.INDEX,
                        InkPrintery::dropProof);
            }
        });
        Check.test("promise 29: without proofs", () -> Twins.refusesOutside(proofs(0),
                "dropProof(?) of none", 0, -1, Check.INDEX, InkPrintery::dropProof));
        Check.test("promise 29: returns the number of proofs that are left", () -> {
            InkPrintery x = twelve();
            for (int left = 11; left >= 0; left--) {
                Check.due("dropProof(" + left + ")", x.dropProof(left), left);
                Check.due("proofCount()", x.proofCount(), left);
            }
        });
    }

    private static void questions() {
        Check.test("promise 30: from 0 to 12 proofs", () -> {
            for (int count = 0; count <= 12; count++) {
                Twins.answers(proofs(count), "proofCount()", count, InkPrintery::proofCount);
            }
        });
        numbers("promise 31: marksOf", InkPrintery::marksOf);
        numbers("promise 32: hourOf", InkPrintery::hourOf);
        Check.test("promises 31 and 32: the ends of what they answer", () -> {
            Supplier<InkPrintery> made = Fixtures.made(x -> {
                x.addProof(99);
                x.pass(48);
                x.addProof(0);
            });
            Twins.answers(made, "marksOf(0)", 99, x -> x.marksOf(0));
            Twins.answers(made, "marksOf(1)", 0, x -> x.marksOf(1));
            Twins.answers(made, "hourOf(0)", 0, x -> x.hourOf(0));
            Twins.answers(made, "hourOf(1)", 48, x -> x.hourOf(1));
        });
    }

    private static void numbers(String promise, Twins.CallWith question) {
        String name = promise.substring(promise.indexOf(": ") + 2);
        Check.test(promise + ", the number of the proof", () -> {
            for (int count : new int[] {1, 3, 12}) {
                Twins.range(proofs(count), name + "(?) of " + count, 0, count - 1, Check.INDEX,
                        question);
            }
        });
        Check.test(promise + ", without proofs", () -> Twins.refusesOutside(proofs(0),
                name + "(?) of none", 0, -1, Check.INDEX, question));
    }

    private static void risesDue(int length, int count, int... marks) {
        InkPrintery x = Fixtures.withProofs(marks);
        Check.due("longestRise()", x.longestRise(), length);
        Check.due("riseByEnds()", x.riseByEnds(), length);
        Check.due("riseCount()", x.riseCount(), count);
    }

    private static void riseTerms() {
        Check.test("rises: more marks, not as many", () -> {
            risesDue(1, 2, 5, 5);
            risesDue(2, 1, 5, 6);
            risesDue(1, 2, 6, 5);
            risesDue(2, 2, 5, 5, 6);
            risesDue(2, 2, 5, 6, 6);
            risesDue(2, 1, 0, 99);
            risesDue(1, 2, 0, 0);
            risesDue(1, 2, 99, 99);
            risesDue(1, 2, 99, 0);
        });
        Check.test("rises: the longest that end with each proof, and only these", () -> {
            risesDue(3, 1, 1, 2, 0, 3);
            risesDue(3, 1, 3, 1, 2, 4);
            risesDue(2, 3, 1, 2, 1, 2);
            risesDue(3, 3, 5, 3, 4, 9, 4, 6);
        });
        Check.test("rises: in the order in which they were made", () -> {
            InkPrintery x = Fixtures.withProofs(9, 1, 2);
            Check.due("longestRise()", x.longestRise(), 2);
            x.dropProof(1);
            x.addProof(1);
            Check.due("longestRise()", x.longestRise(), 1);
            Check.due("riseByEnds()", x.riseByEnds(), 1);
            Check.due("riseCount()", x.riseCount(), 3);
        });
    }

    private static void lengthOf(String promise, Twins.Call length) {
        Check.test(promise + ", 0 without proofs", () -> {
            Twins.answers(Fixtures::fresh, "of a new object", 0, length);
            Twins.answers(proofs(0), "of dropped ones", 0, length);
        });
        Check.test(promise + ", 1 of one proof", () -> {
            Check.due("of 0 marks", length.of(Fixtures.withProofs(0)), 1);
            Check.due("of 99 marks", length.of(Fixtures.withProofs(99)), 1);
        });
        Check.test(promise + ", of twelve proofs", () -> {
            InkPrintery up = Fixtures.withProofs(0, 1, 2, 3, 4, 5, 6, 7, 8, 9, 98, 99);
            Check.due("of rising ones", length.of(up), 12);
            InkPrintery down = Fixtures.withProofs(99, 98, 9, 8, 7, 6, 5, 4, 3, 2, 1, 0);
            Check.due("of falling ones", length.of(down), 1);
            InkPrintery mixed = Fixtures.withProofs(7, 1, 8, 2, 9, 3, 9, 4, 8, 5, 7, 6);
            Check.due("of mixed ones", length.of(mixed), 6);
            InkPrintery lastOnly = Fixtures.withProofs(5, 5, 5, 5, 5, 5, 5, 5, 5, 5, 5, 6);
            Check.due("of equal ones and a greater one", length.of(lastOnly), 2);
        });
    }

    private static void riseCount() {
        Check.test("promise 35: 1 without proofs", () -> {
            Twins.answers(Fixtures::fresh, "of a new object", 1, InkPrintery::riseCount);
            Twins.answers(proofs(0), "of dropped ones", 1, InkPrintery::riseCount);
        });
        Check.test("promise 35: of one proof", () ->
                Check.due("riseCount()", Fixtures.withProofs(99).riseCount(), 1));
        Check.test("promise 35: different choices, with the same marks too", () -> {
            risesDue(1, 12, 7, 7, 7, 7, 7, 7, 7, 7, 7, 7, 7, 7);
            risesDue(2, 36, 7, 7, 7, 7, 7, 7, 8, 8, 8, 8, 8, 8);
            risesDue(3, 4, 1, 1, 2, 2, 3);
        });
        Check.test("promise 35: of twelve proofs", () -> {
            risesDue(12, 1, 0, 1, 2, 3, 4, 5, 6, 7, 8, 9, 98, 99);
            risesDue(1, 12, 99, 98, 9, 8, 7, 6, 5, 4, 3, 2, 1, 0);
            risesDue(4, 81, 3, 2, 1, 6, 5, 4, 9, 8, 7, 12, 11, 10);
            risesDue(6, 64, 2, 1, 4, 3, 6, 5, 8, 7, 10, 9, 12, 11);
        });
    }
}
