import java.util.NoSuchElementException;

/**
 * A printery with vanishing ink: editions are printed on one press, washing between colours takes
 * time, ink fades by halves, paper is shared among editions, and proofs carry marks.
 */
public final class InkPrintery {
    private static final int COLOURS = 10;
    private static final int MOST_INK = 999;
    private static final int MOST_BOUGHT = 999;
    private static final int MOST_PAPER = 9999;
    private static final int MOST_HOURS = 48;
    private static final int MOST_HOURS_AHEAD = 99;
    // Ten halvings empty the fullest well, and the slowest colour halves every ten hours.
    private static final int HOURS_TO_EMPTY = 100;
    private static final int HOURS_CHECKED = 10;
    private static final int MOST_EDITIONS = 7;
    private static final int MOST_COPIES = 50;
    private static final int MOST_PROOFS = 12;
    private static final int MOST_MARKS = 99;
    private static final int MOST_CHARACTERS = 60;
    // The shortest command and its semicolon are four characters.
    private static final int MOST_COMMANDS = MOST_CHARACTERS / 4 + 1;
    private static final int MOST_UNDOS = 8;
    // More minutes than any order of seven editions takes.
    private static final int TOO_MANY_MINUTES = 1000;
    private static final int NONE = -1;

    // What a modification answers when it is refused; all its other answers are 0 or more.
    private static final int BAD_ARGUMENT = -1;
    private static final int BAD_STATE = -2;
    private static final int BAD_INDEX = -3;
    private static final int UNSUPPORTED = -4;

    private static final Command[] COMMANDS = Command.values();

    private final Shop shop = new Shop();
    private final Shop snapshot = new Shop();
    private final History history = new History();
    private final BestOrder bestOrder = new BestOrder();
    private final Shares shares = new Shares();
    private final Rises rises = new Rises();
    private final CommandText text = new CommandText();
    private final StringBuilder line = new StringBuilder();
    private boolean hasSnapshot = false;
    private int lastErrorPosition = NONE;
    private int lastFailedCommand = NONE;

    /** Creates a printery without ink, paper, editions and proofs. */
    public InkPrintery() {
    }

    // Ink, paper and time.

    public int addInk(int colour, int units)
            throws IllegalArgumentException, IllegalStateException {
        return modify(Command.INK, colour, units);
    }

    public int addPaper(int sheets) throws IllegalArgumentException, IllegalStateException {
        return modify(Command.PAPER, sheets, 0);
    }

    public int pass(int hours) throws IllegalArgumentException {
        return modify(Command.HOURS, hours, 0);
    }

    public int ink(int colour) throws IllegalArgumentException {
        requireArgument(isColour(colour));
        return shop.wells[colour];
    }

    public int paper() {
        return shop.paper;
    }

    public int hour() {
        return shop.hour;
    }

    public int inkAfter(int colour, int hours) throws IllegalArgumentException {
        requireArgument(isColour(colour) && isWithin(hours, 0, MOST_HOURS_AHEAD));
        return shop.inkHourByHour(colour, hours);
    }

    public int inkByHalvings(int colour, int hours) throws IllegalArgumentException {
        requireArgument(isColour(colour) && isWithin(hours, 0, MOST_HOURS_AHEAD));
        return shop.inkHalved(colour, hours);
    }

    public int hoursUntilLess(int colour, int limit) throws IllegalArgumentException {
        requireArgument(isColour(colour) && isWithin(limit, 1, MOST_INK));
        return shop.hoursToFallBelow(colour, limit);
    }

    // Editions.

    public int addEdition(int colour, int copies)
            throws IllegalArgumentException, IllegalStateException {
        return modify(Command.EDITION, colour, copies);
    }

    public int removeEdition(int edition) throws IndexOutOfBoundsException {
        return modify(Command.REMOVE, edition, 0);
    }

    public int print(int edition)
            throws IndexOutOfBoundsException, IllegalStateException, UnsupportedOperationException {
        return modify(Command.PRINT, edition, 0);
    }

    public int printAll() {
        return modify(Command.ALL, 0, 0);
    }

    public int editionCount() {
        return shop.editions;
    }

    public int colourOf(int edition) throws IndexOutOfBoundsException {
        requireIndex(shop.hasEdition(edition));
        return shop.colours[edition];
    }

    public int runOf(int edition) throws IndexOutOfBoundsException {
        requireIndex(shop.hasEdition(edition));
        return shop.runs[edition];
    }

    public int printedOf(int edition) throws IndexOutOfBoundsException {
        requireIndex(shop.hasEdition(edition));
        return shop.printed[edition];
    }

    public boolean isComplete(int edition) throws IndexOutOfBoundsException {
        requireIndex(shop.hasEdition(edition));
        return shop.missing(edition) == 0;
    }

    public int changeMinutes(int from, int to) throws IllegalArgumentException {
        requireArgument(isColour(from) && isColour(to));
        return washMinutes(from, to);
    }

    public int pressColour() {
        return shop.press;
    }

    public int fewestMinutes() {
        bestOrder.find(shop);
        return bestOrder.minutes;
    }

    public int minutesByOrders() {
        return bestOrder.minutesOfAllOrders(shop);
    }

    public int editionAt(int position) throws NoSuchElementException {
        bestOrder.find(shop);
        requireElement(isWithin(position, 0, bestOrder.count - 1));
        return bestOrder.order[position];
    }

    public int shareOf(int edition) throws IndexOutOfBoundsException {
        requireIndex(shop.hasEdition(edition));
        shares.dealSheetBySheet(shop);
        return shares.sheets[edition];
    }

    public int shareByLevel(int edition) throws IndexOutOfBoundsException {
        requireIndex(shop.hasEdition(edition));
        shares.dealByLevel(shop);
        return shares.sheets[edition];
    }

    public int editionByMissing(int rank) throws NoSuchElementException {
        requireElement(shop.hasEdition(rank));
        return shop.editionOfRank(rank);
    }

    // Proofs.

    public int addProof(int marks) throws IllegalArgumentException, IllegalStateException {
        return modify(Command.PROOF, marks, 0);
    }

    public int dropProof(int proof) throws IndexOutOfBoundsException {
        return modify(Command.DROP, proof, 0);
    }

    public int proofCount() {
        return shop.proofs;
    }

    public int marksOf(int proof) throws IndexOutOfBoundsException {
        requireIndex(shop.hasProof(proof));
        return shop.marks[proof];
    }

    public int hourOf(int proof) throws IndexOutOfBoundsException {
        requireIndex(shop.hasProof(proof));
        return shop.proofHours[proof];
    }

    public int longestRise() {
        return rises.longest(shop);
    }

    public int riseByEnds() {
        return rises.longestByEnds(shop);
    }

    public int riseCount() {
        return rises.countLongest(shop);
    }

    // Accounts.

    public int minutes() {
        return shop.minutes;
    }

    public int poured() {
        return shop.poured;
    }

    public int used() {
        return shop.used;
    }

    public long faded() {
        return shop.faded;
    }

    public int inkInWells() {
        return sumOf(shop.wells, COLOURS);
    }

    public double meanRun() throws ArithmeticException {
        if (shop.editions == 0) {
            throw new ArithmeticException("there are no editions");
        }
        return (double) sumOf(shop.runs, shop.editions) / (double) shop.editions;
    }

    public float fadedShare() throws ArithmeticException {
        if (shop.poured == 0) {
            throw new ArithmeticException("no ink was poured in");
        }
        return (float) shop.faded / (float) shop.poured;
    }

    // Lines and checks.

    public int writeEdition(int edition) throws IndexOutOfBoundsException {
        requireIndex(shop.hasEdition(edition));
        line.setLength(0);
        line.append(edition);
        line.append('c');
        line.append(shop.colours[edition]);
        line.append(':');
        line.append(shop.printed[edition]);
        line.append('/');
        line.append(shop.runs[edition]);
        return line.length();
    }

    public int writeWells() {
        line.setLength(0);
        for (int colour = 0; colour < COLOURS; colour++) {
            if (colour > 0) {
                line.append(' ');
            }
            line.append(shop.wells[colour]);
        }
        return line.length();
    }

    public char lineAt(int index) throws IndexOutOfBoundsException {
        requireIndex(isWithin(index, 0, line.length() - 1));
        return line.charAt(index);
    }

    public boolean isConsistent() {
        return inkWaysAgree() && fewestMinutes() == minutesByOrders() && shareWaysAgree()
                && longestRise() == riseByEnds() && inkIsAccountedFor();
    }

    // Text, undo and snapshots.

    public int type(char character) throws IllegalArgumentException, IllegalStateException {
        requireArgument(isWithin(character, 32, 126));
        requireState(text.length() < MOST_CHARACTERS);
        text.add(character);
        return text.length();
    }

    public int execute() throws IllegalArgumentException, IllegalStateException {
        boolean wellFormed = text.read();
        text.empty();
        if (!wellFormed) {
            lastErrorPosition = text.position;
            throw new IllegalArgumentException("the text is malformed");
        }
        history.note(shop);
        int failed = carryOutText();
        if (failed != NONE) {
            history.takeBackNoted(shop);
            lastFailedCommand = failed;
            throw new IllegalStateException("a command failed");
        }
        history.keepNoted();
        return text.count;
    }

    public int errorPosition() throws NoSuchElementException {
        requireElement(lastErrorPosition != NONE);
        return lastErrorPosition;
    }

    public int failedCommand() throws NoSuchElementException {
        requireElement(lastFailedCommand != NONE);
        return lastFailedCommand;
    }

    public int undo() throws IllegalStateException {
        requireState(history.kept > 0);
        history.takeBackKept(shop);
        return history.kept;
    }

    public int save() {
        snapshot.copyFrom(shop);
        hasSnapshot = true;
        return shop.editions;
    }

    public int restore() throws IllegalStateException {
        requireState(hasSnapshot);
        shop.copyFrom(snapshot);
        history.forget();
        return shop.editions;
    }

    // How modifications are carried out.

    private int modify(Command command, int first, int second) {
        history.note(shop);
        int answer = carryOut(command, first, second);
        throwIfRefused(answer);
        history.keepNoted();
        return answer;
    }

    /** Answers what the command's call returns, or why it is refused; then nothing has changed. */
    private int carryOut(Command command, int first, int second) {
        if (command == Command.INK) {
            return shop.pour(first, second);
        }
        if (command == Command.PAPER) {
            return shop.buy(first);
        }
        if (command == Command.EDITION) {
            return shop.takeEdition(first, second);
        }
        if (command == Command.REMOVE) {
            return shop.strikeEdition(first);
        }
        if (command == Command.PRINT) {
            return shop.printOne(first);
        }
        if (command == Command.ALL) {
            return printOpenEditions();
        }
        if (command == Command.HOURS) {
            return shop.letPass(first);
        }
        if (command == Command.PROOF) {
            return shop.makeProof(first);
        }
        return shop.discardProof(first);
    }

    /** Carries out the commands of the text; answers the index of the one that fails, or NONE. */
    private int carryOutText() {
        for (int index = 0; index < text.count; index++) {
            int answer = carryOut(text.commands[index], text.firsts[index], text.seconds[index]);
            if (answer < 0) {
                return index;
            }
        }
        return NONE;
    }

    private int printOpenEditions() {
        // The order and the shares are those before the first copy is printed.
        bestOrder.find(shop);
        shares.dealSheetBySheet(shop);
        int copies = 0;
        for (int position = 0; position < bestOrder.count; position++) {
            int edition = bestOrder.order[position];
            copies += shop.printUpTo(edition, shares.sheets[edition]);
        }
        return copies;
    }

    // What isConsistent compares.

    private boolean inkWaysAgree() {
        for (int colour = 0; colour < COLOURS; colour++) {
            int hourByHour = shop.inkHourByHour(colour, HOURS_CHECKED);
            if (hourByHour != shop.inkHalved(colour, HOURS_CHECKED)) {
                return false;
            }
        }
        return true;
    }

    private boolean shareWaysAgree() {
        for (int edition = 0; edition < shop.editions; edition++) {
            if (shareOf(edition) != shareByLevel(edition)) {
                return false;
            }
        }
        return true;
    }

    private boolean inkIsAccountedFor() {
        return shop.poured == inkInWells() + shop.used + shop.faded;
    }

    // Checks and small sums.

    private static void throwIfRefused(int answer) {
        requireArgument(answer != BAD_ARGUMENT);
        requireState(answer != BAD_STATE);
        requireIndex(answer != BAD_INDEX);
        if (answer == UNSUPPORTED) {
            throw new UnsupportedOperationException("there is no paper, or no ink of its colour");
        }
    }

    private static void requireArgument(boolean holds) {
        if (!holds) {
            throw new IllegalArgumentException("an argument is out of range");
        }
    }

    private static void requireState(boolean holds) {
        if (!holds) {
            throw new IllegalStateException("the state does not allow this call");
        }
    }

    private static void requireIndex(boolean holds) {
        if (!holds) {
            throw new IndexOutOfBoundsException("there is no such number or index");
        }
    }

    private static void requireElement(boolean holds) {
        if (!holds) {
            throw new NoSuchElementException("there is nothing to answer");
        }
    }

    private static boolean isColour(int colour) {
        return isWithin(colour, 0, COLOURS - 1);
    }

    private static boolean isWithin(int value, int least, int most) {
        return value >= least && value <= most;
    }

    private static int washMinutes(int from, int to) {
        return to >= from ? to - from : 2 * (from - to) + 1;
    }

    private static int sumOf(int[] row, int count) {
        int sum = 0;
        for (int index = 0; index < count && index < row.length; index++) {
            sum += row[index];
        }
        return sum;
    }

    /** The words of the grammar, with the most digits of each parameter; 0 where there is none. */
    private enum Command {
        INK("ink", 1, 3),
        PAPER("paper", 3, 0),
        EDITION("edition", 1, 2),
        REMOVE("remove", 1, 0),
        PRINT("print", 1, 0),
        ALL("all", 0, 0),
        HOURS("hours", 2, 0),
        PROOF("proof", 2, 0),
        DROP("drop", 2, 0);

        private final String word;
        private final int firstDigits;
        private final int secondDigits;

        Command(String word, int firstDigits, int secondDigits) {
            this.word = word;
            this.firstDigits = firstDigits;
            this.secondDigits = secondDigits;
        }
    }

    /** All that is undone, saved and restored. */
    private static final class Shop {
        final int[] wells = new int[COLOURS];
        final int[] colours = new int[MOST_EDITIONS];
        final int[] runs = new int[MOST_EDITIONS];
        final int[] printed = new int[MOST_EDITIONS];
        final int[] marks = new int[MOST_PROOFS];
        final int[] proofHours = new int[MOST_PROOFS];
        int editions = 0;
        int proofs = 0;
        int paper = 0;
        int hour = 0;
        int press = 0;
        int minutes = 0;
        int poured = 0;
        int used = 0;
        long faded = 0;

        void copyFrom(Shop other) {
            System.arraycopy(other.wells, 0, wells, 0, COLOURS);
            System.arraycopy(other.colours, 0, colours, 0, MOST_EDITIONS);
            System.arraycopy(other.runs, 0, runs, 0, MOST_EDITIONS);
            System.arraycopy(other.printed, 0, printed, 0, MOST_EDITIONS);
            System.arraycopy(other.marks, 0, marks, 0, MOST_PROOFS);
            System.arraycopy(other.proofHours, 0, proofHours, 0, MOST_PROOFS);
            editions = other.editions;
            proofs = other.proofs;
            paper = other.paper;
            hour = other.hour;
            press = other.press;
            minutes = other.minutes;
            poured = other.poured;
            used = other.used;
            faded = other.faded;
        }

        int pour(int colour, int units) {
            if (!isColour(colour) || !isWithin(units, 1, MOST_INK)) {
                return BAD_ARGUMENT;
            }
            if (wells[colour] + units > MOST_INK) {
                return BAD_STATE;
            }
            wells[colour] += units;
            poured += units;
            return wells[colour];
        }

        int buy(int sheets) {
            if (!isWithin(sheets, 1, MOST_BOUGHT)) {
                return BAD_ARGUMENT;
            }
            if (paper + sheets > MOST_PAPER) {
                return BAD_STATE;
            }
            paper += sheets;
            return paper;
        }

        int letPass(int hours) {
            if (!isWithin(hours, 1, MOST_HOURS)) {
                return BAD_ARGUMENT;
            }
            int lost = 0;
            for (int passed = 0; passed < hours; passed++) {
                hour++;
                lost += fadeInThisHour();
            }
            faded += lost;
            return lost;
        }

        private int fadeInThisHour() {
            int lost = 0;
            for (int colour = 0; colour < COLOURS; colour++) {
                int left = inkInHour(wells[colour], colour, hour);
                lost += wells[colour] - left;
                wells[colour] = left;
            }
            return lost;
        }

        /** The ink that is left of some units when an hour of this number has come. */
        private static int inkInHour(int units, int colour, int hour) {
            return hour % (colour + 1) == 0 ? units / 2 : units;
        }

        int inkHourByHour(int colour, int hours) {
            int left = wells[colour];
            for (int passed = 1; passed <= hours; passed++) {
                left = inkInHour(left, colour, hour + passed);
            }
            return left;
        }

        int inkHalved(int colour, int hours) {
            int interval = colour + 1;
            int halvings = (hour + hours) / interval - hour / interval;
            // A shift by 32 or more would begin again at 0.
            return wells[colour] >> Math.min(halvings, 31);
        }

        int hoursToFallBelow(int colour, int limit) {
            int left = wells[colour];
            int passed = 0;
            while (passed < HOURS_TO_EMPTY && left >= limit) {
                passed++;
                left = inkInHour(left, colour, hour + passed);
            }
            return passed;
        }

        boolean hasEdition(int edition) {
            return isWithin(edition, 0, editions - 1);
        }

        int missing(int edition) {
            return runs[edition] - printed[edition];
        }

        int takeEdition(int colour, int copies) {
            if (!isColour(colour) || !isWithin(copies, 1, MOST_COPIES)) {
                return BAD_ARGUMENT;
            }
            if (editions >= MOST_EDITIONS) {
                return BAD_STATE;
            }
            int edition = editions;
            colours[edition] = colour;
            runs[edition] = copies;
            printed[edition] = 0;
            editions++;
            return edition;
        }

        int strikeEdition(int edition) {
            if (!hasEdition(edition)) {
                return BAD_INDEX;
            }
            closeGap(colours, edition, editions);
            closeGap(runs, edition, editions);
            closeGap(printed, edition, editions);
            editions--;
            return editions;
        }

        int printOne(int edition) {
            if (!hasEdition(edition)) {
                return BAD_INDEX;
            }
            if (missing(edition) == 0) {
                return BAD_STATE;
            }
            int copies = printUpTo(edition, Math.min(missing(edition), paper));
            return copies == 0 ? UNSUPPORTED : copies;
        }

        /** Prints as many copies as there is ink for, given sheets for at most so many. */
        int printUpTo(int edition, int sheets) {
            int colour = colours[edition];
            int copies = Math.min(sheets, wells[colour]);
            if (copies == 0) {
                return 0;
            }
            minutes += washMinutes(press, colour) + copies;
            press = colour;
            printed[edition] += copies;
            paper -= copies;
            wells[colour] -= copies;
            used += copies;
            return copies;
        }

        int editionOfRank(int rank) {
            for (int edition = 0; edition < editions; edition++) {
                if (rankOf(edition) == rank) {
                    return edition;
                }
            }
            return NONE;
        }

        private int rankOf(int edition) {
            int before = 0;
            for (int other = 0; other < editions; other++) {
                int more = missing(other) - missing(edition);
                if (more > 0 || more == 0 && other < edition) {
                    before++;
                }
            }
            return before;
        }

        boolean hasProof(int proof) {
            return isWithin(proof, 0, proofs - 1);
        }

        int makeProof(int number) {
            if (!isWithin(number, 0, MOST_MARKS)) {
                return BAD_ARGUMENT;
            }
            if (proofs >= MOST_PROOFS) {
                return BAD_STATE;
            }
            int proof = proofs;
            marks[proof] = number;
            proofHours[proof] = hour;
            proofs++;
            return proof;
        }

        int discardProof(int proof) {
            if (!hasProof(proof)) {
                return BAD_INDEX;
            }
            closeGap(marks, proof, proofs);
            closeGap(proofHours, proof, proofs);
            proofs--;
            return proofs;
        }

        private static void closeGap(int[] row, int gap, int count) {
            for (int index = gap; index < count - 1; index++) {
                row[index] = row[index + 1];
            }
        }
    }

    /** The states before the last modifications, in a ring with one place to note the next. */
    private static final class History {
        private static final int PLACES = MOST_UNDOS + 1;

        private final Shop[] before = new Shop[PLACES];
        private int place = 0;
        int kept = 0;

        History() {
            for (int index = 0; index < PLACES; index++) {
                before[index] = new Shop();
            }
        }

        /** Notes the state before a modification of which it is not yet known if it succeeds. */
        void note(Shop shop) {
            before[place].copyFrom(shop);
        }

        void keepNoted() {
            place = (place + 1) % PLACES;
            kept = Math.min(kept + 1, MOST_UNDOS);
        }

        void takeBackNoted(Shop shop) {
            shop.copyFrom(before[place]);
        }

        void takeBackKept(Shop shop) {
            place = (place + PLACES - 1) % PLACES;
            kept--;
            shop.copyFrom(before[place]);
        }

        void forget() {
            kept = 0;
        }
    }

    /** The best order of the editions that are not complete. */
    private static final class BestOrder {
        private final int[] open = new int[MOST_EDITIONS];
        private final int[] openColours = new int[MOST_EDITIONS];
        // The fewest minutes for the others, for each set that is printed and each last one of it.
        private final int[] rest = new int[(1 << MOST_EDITIONS) * MOST_EDITIONS];
        final int[] order = new int[MOST_EDITIONS];
        int count = 0;
        int minutes = 0;
        // What the last choice of a next edition takes, to the end of the order.
        private int minutesFromNext = 0;

        void find(Shop shop) {
            listOpen(shop);
            // Larger sets come first: the rest of a set is told from sets with one more edition.
            for (int set = (1 << count) - 1; set > 0; set--) {
                for (int last = 0; last < count; last++) {
                    if (contains(set, last)) {
                        chooseNext(set, openColours[last]);
                        rest[set * MOST_EDITIONS + last] = minutesFromNext;
                    }
                }
            }
            follow(shop.press);
        }

        private void listOpen(Shop shop) {
            count = 0;
            for (int edition = 0; edition < shop.editions; edition++) {
                if (shop.missing(edition) > 0) {
                    open[count] = edition;
                    openColours[count] = shop.colours[edition];
                    count++;
                }
            }
        }

        private void follow(int press) {
            int set = 0;
            int colour = press;
            minutes = 0;
            for (int position = 0; position < count; position++) {
                int next = chooseNext(set, colour);
                if (next == NONE) {
                    return;
                }
                minutes += washMinutes(colour, openColours[next]);
                order[position] = open[next];
                set |= 1 << next;
                colour = openColours[next];
            }
        }

        /** The lowest of the editions that are best to print after a set, or NONE at the end. */
        private int chooseNext(int set, int colour) {
            int best = NONE;
            minutesFromNext = 0;
            for (int next = 0; next < count; next++) {
                if (!contains(set, next)) {
                    int after = rest[(set | 1 << next) * MOST_EDITIONS + next];
                    int all = washMinutes(colour, openColours[next]) + after;
                    if (best == NONE || all < minutesFromNext) {
                        best = next;
                        minutesFromNext = all;
                    }
                }
            }
            return best;
        }

        private static boolean contains(int set, int member) {
            return (set & 1 << member) != 0;
        }

        int minutesOfAllOrders(Shop shop) {
            listOpen(shop);
            return fewestOfOrders(openColours, count, 0, shop.press);
        }

        /** Tries all orders of the colours from a place on; the row is the same afterwards. */
        private static int fewestOfOrders(int[] row, int count, int from, int press) {
            if (from >= count) {
                return 0;
            }
            int fewest = TOO_MANY_MINUTES;
            for (int next = from; next < count; next++) {
                swap(row, from, next);
                int colour = row[from];
                int after = fewestOfOrders(row, count, from + 1, colour);
                fewest = Math.min(fewest, washMinutes(press, colour) + after);
                swap(row, from, next);
            }
            return fewest;
        }

        private static void swap(int[] row, int one, int other) {
            int kept = row[one];
            row[one] = row[other];
            row[other] = kept;
        }
    }

    /** The shares of paper of the editions. */
    private static final class Shares {
        final int[] sheets = new int[MOST_EDITIONS];

        void dealSheetBySheet(Shop shop) {
            for (int edition = 0; edition < MOST_EDITIONS; edition++) {
                sheets[edition] = 0;
            }
            for (int left = shop.paper; left > 0; left--) {
                int edition = nextToGet(shop);
                if (edition == NONE) {
                    return;
                }
                sheets[edition]++;
            }
        }

        private int nextToGet(Shop shop) {
            int next = NONE;
            for (int edition = 0; edition < shop.editions; edition++) {
                boolean needsMore = sheets[edition] < shop.missing(edition);
                if (needsMore && (next == NONE || sheets[edition] < sheets[next])) {
                    next = edition;
                }
            }
            return next;
        }

        void dealByLevel(Shop shop) {
            int level = MOST_COPIES;
            while (level > 0 && sheetsForLevel(shop, level) > shop.paper) {
                level--;
            }
            // What the level leaves over is less than a sheet for each that needs more.
            int left = shop.paper - sheetsForLevel(shop, level);
            for (int edition = 0; edition < shop.editions; edition++) {
                sheets[edition] = Math.min(level, shop.missing(edition));
                if (left > 0 && sheets[edition] < shop.missing(edition)) {
                    sheets[edition]++;
                    left--;
                }
            }
        }

        private static int sheetsForLevel(Shop shop, int level) {
            int sheets = 0;
            for (int edition = 0; edition < shop.editions; edition++) {
                sheets += Math.min(level, shop.missing(edition));
            }
            return sheets;
        }
    }

    /** The longest rises of the marks of the proofs. */
    private static final class Rises {
        // For each proof: how long the longest rises that end with it are, and how many there are.
        private final int[] lengths = new int[MOST_PROOFS];
        private final int[] counts = new int[MOST_PROOFS];
        // The fewest marks with which a rise ends, at the place of its length minus 1.
        private final int[] ends = new int[MOST_PROOFS];

        int longest(Shop shop) {
            int longest = 0;
            for (int proof = 0; proof < shop.proofs; proof++) {
                findRisesTo(shop, proof);
                longest = Math.max(longest, lengths[proof]);
            }
            return longest;
        }

        private void findRisesTo(Shop shop, int proof) {
            lengths[proof] = 1;
            counts[proof] = 1;
            for (int before = 0; before < proof; before++) {
                if (shop.marks[before] < shop.marks[proof]) {
                    lengthen(before, proof);
                }
            }
        }

        private void lengthen(int before, int proof) {
            int length = lengths[before] + 1;
            if (length > lengths[proof]) {
                lengths[proof] = length;
                counts[proof] = counts[before];
            } else if (length == lengths[proof]) {
                counts[proof] += counts[before];
            }
        }

        int countLongest(Shop shop) {
            int longest = longest(shop);
            if (longest == 0) {
                // The choice of no proofs is the only one.
                return 1;
            }
            int count = 0;
            for (int proof = 0; proof < shop.proofs; proof++) {
                if (lengths[proof] == longest) {
                    count += counts[proof];
                }
            }
            return count;
        }

        int longestByEnds(Shop shop) {
            int longest = 0;
            for (int proof = 0; proof < shop.proofs; proof++) {
                int place = 0;
                while (place < longest && ends[place] < shop.marks[proof]) {
                    place++;
                }
                ends[place] = shop.marks[proof];
                longest = Math.max(longest, place + 1);
            }
            return longest;
        }
    }

    /** The text buffer and the commands that were read from it. */
    private static final class CommandText {
        private final StringBuilder buffer = new StringBuilder();
        final Command[] commands = new Command[MOST_COMMANDS];
        final int[] firsts = new int[MOST_COMMANDS];
        final int[] seconds = new int[MOST_COMMANDS];
        int count = 0;
        // The index of the first character that is not read yet; of a malformed text, its error.
        int position = 0;

        int length() {
            return buffer.length();
        }

        void add(char character) {
            buffer.append(character);
        }

        void empty() {
            buffer.setLength(0);
        }

        /** Reads the text into the commands; answers whether it is well formed. */
        boolean read() {
            position = 0;
            for (int index = 0; index < MOST_COMMANDS; index++) {
                if (!readCommand(index)) {
                    return false;
                }
                if (position == buffer.length()) {
                    count = index + 1;
                    return true;
                }
                if (!skip(';')) {
                    return false;
                }
            }
            return false;
        }

        private boolean readCommand(int index) {
            Command command = readWord();
            if (command == null) {
                return false;
            }
            int first = readParameter(command.firstDigits);
            if (first == NONE) {
                return false;
            }
            int second = readParameter(command.secondDigits);
            if (second == NONE) {
                return false;
            }
            commands[index] = command;
            firsts[index] = first;
            seconds[index] = second;
            return true;
        }

        /** Reads a word; if there is none, the position is where the last of them goes wrong. */
        private Command readWord() {
            int furthest = 0;
            for (int index = 0; index < COMMANDS.length; index++) {
                Command command = COMMANDS[index];
                int agreeing = agreeingCharacters(command.word);
                if (agreeing == command.word.length()) {
                    position += agreeing;
                    return command;
                }
                furthest = Math.max(furthest, agreeing);
            }
            position += furthest;
            return null;
        }

        private int agreeingCharacters(String word) {
            int agreeing = 0;
            while (agreeing < word.length() && position + agreeing < buffer.length()
                    && buffer.charAt(position + agreeing) == word.charAt(agreeing)) {
                agreeing++;
            }
            return agreeing;
        }

        /** Reads a blank and a number; answers 0 where no parameter is due, NONE for an error. */
        private int readParameter(int mostDigits) {
            if (mostDigits == 0) {
                return 0;
            }
            if (!skip(' ') || !isAtDigit()) {
                return NONE;
            }
            int number = 0;
            for (int digits = 0; digits < mostDigits && isAtDigit(); digits++) {
                number = number * 10 + (buffer.charAt(position) - '0');
                position++;
            }
            return number;
        }

        private boolean isAtDigit() {
            return position < buffer.length() && isWithin(buffer.charAt(position), '0', '9');
        }

        private boolean skip(char character) {
            if (position >= buffer.length() || buffer.charAt(position) != character) {
                return false;
            }
            position++;
            return true;
        }
    }
}
