import java.util.function.Consumer;
import java.util.function.Supplier;

/** Runs of calls that several tests share. */
final class Fixtures {
    static final int COLOURS = 10;
    static final int MOST_CALLS = 512;

    private Fixtures() {
    }

    static InkPrintery fresh() {
        return new InkPrintery();
    }

    /** Five editions with ink for most of them, and 40 sheets. */
    static InkPrintery busy() {
        InkPrintery x = fresh();
        x.addInk(0, 100);
        x.addInk(2, 100);
        x.addInk(5, 30);
        x.addInk(9, 4);
        x.addPaper(40);
        x.addEdition(5, 20);
        x.addEdition(2, 10);
        x.addEdition(9, 30);
        x.addEdition(2, 3);
        x.addEdition(0, 15);
        return x;
    }

    /**
     * Something of everything: editions that are complete, begun and new, proofs of two hours, more
     * modifications than can be undone, a snapshot, a line, an error position, a failed command.
     */
    static InkPrintery lived() {
        InkPrintery x = fresh();
        x.addInk(0, 200);
        x.addInk(2, 300);
        x.addInk(5, 77);
        x.addInk(9, 4);
        x.addPaper(60);
        x.addEdition(5, 20);
        x.addEdition(2, 10);
        x.addEdition(9, 30);
        x.print(1);
        x.save();
        x.addProof(40);
        x.pass(3);
        x.addProof(60);
        x.addProof(50);
        x.addEdition(0, 15);
        x.printAll();
        Check.refused("execute() of nothing", Check.ARGUMENT, () -> execute(x, "nothing"));
        Check.refused("execute() of all;print 9", Check.STATE, () -> execute(x, "all;print 9"));
        x.writeEdition(2);
        return x;
    }

    /** Makes such an object again and again, always with some more calls and a text begun. */
    static Supplier<InkPrintery> lived(Consumer<InkPrintery> more) {
        return () -> {
            InkPrintery x = lived();
            more.accept(x);
            type(x, "al");
            return x;
        };
    }

    /** Makes such an object as it is, with a text begun. */
    static Supplier<InkPrintery> typing() {
        return lived(x -> { });
    }

    /** Makes a new object with some calls, again and again. */
    static Supplier<InkPrintery> made(Consumer<InkPrintery> calls) {
        return () -> {
            InkPrintery x = fresh();
            calls.accept(x);
            return x;
        };
    }

    static void addEditions(InkPrintery x, int upTo) {
        while (x.editionCount() < upTo) {
            x.addEdition(4, 5);
        }
    }

    static void addProofs(InkPrintery x, int upTo) {
        while (x.proofCount() < upTo) {
            x.addProof(20);
        }
    }

    static void addPaper(InkPrintery x, int upTo) {
        while (x.paper() < upTo) {
            x.addPaper(Math.min(999, upTo - x.paper()));
        }
    }

    static InkPrintery withProofs(int... marks) {
        InkPrintery x = fresh();
        for (int number : marks) {
            x.addProof(number);
        }
        return x;
    }

    static void type(InkPrintery x, String text) {
        for (int index = 0; index < text.length(); index++) {
            x.type(text.charAt(index));
        }
    }

    static int execute(InkPrintery x, String text) {
        type(x, text);
        return x.execute();
    }

    static String line(InkPrintery x, int length) {
        StringBuilder line = new StringBuilder();
        for (int index = 0; index < length; index++) {
            line.append(x.lineAt(index));
        }
        return line.toString();
    }

    /** All of the state that is undone, saved and restored. */
    static String state(InkPrintery x) {
        StringBuilder state = new StringBuilder();
        for (int colour = 0; colour < COLOURS; colour++) {
            state.append(x.ink(colour)).append(' ');
        }
        state.append("paper ").append(x.paper()).append(" hour ").append(x.hour());
        state.append(" press ").append(x.pressColour()).append(" minutes ").append(x.minutes());
        state.append(" poured ").append(x.poured()).append(" used ").append(x.used());
        state.append(" faded ").append(x.faded());
        for (int edition = 0; edition < x.editionCount(); edition++) {
            state.append(" e").append(x.colourOf(edition)).append(':');
            state.append(x.printedOf(edition)).append('/').append(x.runOf(edition));
        }
        for (int proof = 0; proof < x.proofCount(); proof++) {
            state.append(" p").append(x.marksOf(proof)).append('@').append(x.hourOf(proof));
        }
        return state.toString();
    }

    /** How many modifications can be undone; undoes them all, but no more than an object's calls. */
    static int undosLeft(InkPrintery x) {
        for (int undone = 0; undone < MOST_CALLS; undone++) {
            try {
                x.undo();
            } catch (IllegalStateException e) {
                return undone;
            }
        }
        return MOST_CALLS;
    }
}
