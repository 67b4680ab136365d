/** Runs of calls that several tests share. */
final class Fixtures {
    static final int COLOURS = 10;

    private Fixtures() {
    }

    static InkPrintery fresh() {
        return new InkPrintery();
    }

    /** Five editions with ink for most of them, and 40 sheets. */
    static InkPrintery busy() {
        InkPrintery x = fresh();
        x.addInk(0, 100);
        x.addInk(2, 100);
        x.addInk(5, 30);
        x.addInk(9, 4);
        x.addPaper(40);
        x.addEdition(5, 20);
        x.addEdition(2, 10);
        x.addEdition(9, 30);
        x.addEdition(2, 3);
        x.addEdition(0, 15);
        return x;
    }

    static InkPrintery withProofs(int... marks) {
        InkPrintery x = fresh();
        for (int number : marks) {
            x.addProof(number);
        }
        return x;
    }

    static void type(InkPrintery x, String text) {
        for (int index = 0; index < text.length(); index++) {
            x.type(text.charAt(index));
        }
    }

    static int execute(InkPrintery x, String text) {
        type(x, text);
        return x.execute();
    }

    static String line(InkPrintery x, int length) {
        StringBuilder line = new StringBuilder();
        for (int index = 0; index < length; index++) {
            line.append(x.lineAt(index));
        }
        return line.toString();
    }

    /** All of the state that is undone, saved and restored. */
    static String state(InkPrintery x) {
        StringBuilder state = new StringBuilder();
        for (int colour = 0; colour < COLOURS; colour++) {
            state.append(x.ink(colour)).append(' ');
        }
        state.append("paper ").append(x.paper()).append(" hour ").append(x.hour());
        state.append(" press ").append(x.pressColour()).append(" minutes ").append(x.minutes());
        state.append(" poured ").append(x.poured()).append(" used ").append(x.used());
        state.append(" faded ").append(x.faded());
        for (int edition = 0; edition < x.editionCount(); edition++) {
            state.append(" e").append(x.colourOf(edition)).append(':');
            state.append(x.printedOf(edition)).append('/').append(x.runOf(edition));
        }
        for (int proof = 0; proof < x.proofCount(); proof++) {
            state.append(" p").append(x.marksOf(proof)).append('@').append(x.hourOf(proof));
        }
        return state.toString();
    }

    /** How many modifications can be undone; undoes them all. */
    static int undosLeft(InkPrintery x) {
        int undone = 0;
        while (true) {
            try {
                x.undo();
            } catch (IllegalStateException e) {
                return undone;
            }
            undone++;
        }
    }
}
