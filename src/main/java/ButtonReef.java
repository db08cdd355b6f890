import java.util.NoSuchElementException;

/** A reef of buttons on a grid of 8 by 8 cells, which changes with the tides. */
public final class ButtonReef {
    public static final int OCCUPIED = 1;
    public static final int NO_BUTTON = 2;
    public static final int BLEACHED = 3;
    public static final int OUTSIDE = 4;
    public static final int SAME_RULE = 5;
    public static final int COMMAND_REJECTED = 6;

    private static final int SIDE = 8;
    private static final int CELLS = 64;
    private static final int MOST_NEIGHBOURS = 8;
    private static final int COLOURS = 4;
    private static final int OLDEST = 9;
    private static final int CAPITAL_AGE = 5;
    private static final int MOST_TIDES = 20;
    private static final int FORECAST_TIDES = 40;
    private static final int UNDO_LIMIT = 8;
    private static final int INPUT_LIMIT = 60;
    private static final int OUTPUT_LIMIT = 32;

    /** In place of a reason: nothing speaks against the call. */
    private static final int NO_REASON = 0;
    /** In place of a reason: the method of a command would throw for its cell or number. */
    private static final int NOT_ACCEPTED = -1;

    // What a cell holds is NOTHING, PALE or the letter of a colour; ANY_COLOUR stands for all letters in a question.
    private static final char NOTHING = 0;
    private static final char PALE = '#';
    private static final char ANY_COLOUR = '*';
    private static final char FIRST_COLOUR = 'a';
    private static final char LAST_COLOUR = 'd';

    private static final Rule[] RULES = Rule.values();
    private static final Pattern[] PATTERNS = Pattern.values();
    private static final Verb[] VERBS = Verb.values();

    private final State present = new State();
    /** A second state for forecasts and for commands that may yet fail. */
    private final State trial = new State();
    private final State snapshot = new State();
    private final History history = new History();
    private final Sea sea = new Sea();
    private final Islands islands = new Islands();
    private final Output output = new Output();
    private final CommandText input = new CommandText();
    private boolean hasSnapshot = false;
    private int syntaxError = -1;
    private int latestReason = NO_REASON;
    private int latestDetail = 0;
    private int latestCause = NO_REASON;

    public ButtonReef() {
    }

    // ---- changes of cells

    public int place(int row, int column, char colour)
            throws IndexOutOfBoundsException, IllegalArgumentException, UnsupportedOperationException {
        requireCell(row, column);
        requireColour(colour);
        int cell = cellNumber(row, column);
        rejectFor(present.reasonAgainstPlacing(cell), cell);
        history.keep(present);
        present.putPlaced(cell, colour);
        return present.count(ANY_COLOUR);
    }

    public int remove(int row, int column) throws IndexOutOfBoundsException, UnsupportedOperationException {
        requireCell(row, column);
        int cell = cellNumber(row, column);
        rejectFor(present.reasonAgainstRemoving(cell), cell);
        history.keep(present);
        present.takeRemoved(cell);
        return present.count(ANY_COLOUR);
    }

    public int bleach(int row, int column) throws IndexOutOfBoundsException, UnsupportedOperationException {
        requireCell(row, column);
        int cell = cellNumber(row, column);
        rejectUnlessLiving(cell);
        history.keep(present);
        int age = present.ageOf(cell);
        present.turnPale(cell);
        return age;
    }

    public char recolour(int row, int column, char colour)
            throws IndexOutOfBoundsException, IllegalArgumentException, UnsupportedOperationException {
        requireCell(row, column);
        requireColour(colour);
        int cell = cellNumber(row, column);
        rejectUnlessLiving(cell);
        history.keep(present);
        char previous = present.kindOf(cell);
        present.paint(cell, colour);
        return previous;
    }

    public int plant(int row, int column, char pattern, char colour)
            throws IndexOutOfBoundsException, IllegalArgumentException, UnsupportedOperationException {
        requireCell(row, column);
        Pattern shape = patternOf(pattern);
        if (shape == null) {
            throw new IllegalArgumentException("no such pattern");
        }
        requireColour(colour);
        int reason = present.reasonAgainstPlanting(row, column, shape);
        rejectFor(reason, reason == OUTSIDE ? shape.size() : present.firstTakenCell(row, column, shape));
        history.keep(present);
        present.putPattern(row, column, shape, colour);
        return shape.size();
    }

    public char setRule(char rule) throws IllegalArgumentException, UnsupportedOperationException {
        Rule wanted = ruleOf(rule);
        if (wanted == null) {
            throw new IllegalArgumentException("no such rule");
        }
        rejectFor(present.reasonAgainstRule(wanted), present.tides);
        history.keep(present);
        char previous = rule();
        present.rule = wanted;
        return previous;
    }

    // ---- cells

    public boolean isEmpty(int row, int column) throws IndexOutOfBoundsException {
        requireCell(row, column);
        return present.kindOf(cellNumber(row, column)) == NOTHING;
    }

    public boolean isLiving(int row, int column) throws IndexOutOfBoundsException {
        requireCell(row, column);
        return isColour(present.kindOf(cellNumber(row, column)));
    }

    public boolean isBleached(int row, int column) throws IndexOutOfBoundsException {
        requireCell(row, column);
        return present.kindOf(cellNumber(row, column)) == PALE;
    }

    public char colourAt(int row, int column) throws IndexOutOfBoundsException, NoSuchElementException {
        requireCell(row, column);
        requireLiving(row, column);
        return present.kindOf(cellNumber(row, column));
    }

    public int ageAt(int row, int column) throws IndexOutOfBoundsException, NoSuchElementException {
        requireCell(row, column);
        requireLiving(row, column);
        return present.ageOf(cellNumber(row, column));
    }

    public int neighbours(int row, int column) throws IndexOutOfBoundsException {
        requireCell(row, column);
        return present.countAround(cellNumber(row, column), ANY_COLOUR);
    }

    public int neighboursOf(int row, int column, char colour)
            throws IndexOutOfBoundsException, IllegalArgumentException {
        requireCell(row, column);
        requireColour(colour);
        return present.countAround(cellNumber(row, column), colour);
    }

    public char birthColour(int row, int column) throws IndexOutOfBoundsException, NoSuchElementException {
        requireCell(row, column);
        char colour = present.mostColourAround(cellNumber(row, column));
        if (colour == NOTHING) {
            throw new NoSuchElementException("no living neighbours");
        }
        return colour;
    }

    public int livingCount() {
        return present.count(ANY_COLOUR);
    }

    public int bleachedCount() {
        return present.count(PALE);
    }

    public int countOf(char colour) throws IllegalArgumentException {
        requireColour(colour);
        return present.count(colour);
    }

    // ---- islands

    public int islandCount() {
        return islands.search(present, ANY_COLOUR);
    }

    public int islandCountByMerging() {
        return islands.merge(present);
    }

    public int islandSize(int row, int column) throws IndexOutOfBoundsException, NoSuchElementException {
        requireCell(row, column);
        requireLiving(row, column);
        islands.search(present, ANY_COLOUR);
        return islands.sizeOf(islands.markOf(cellNumber(row, column)));
    }

    public int largestIsland() {
        int found = islands.search(present, ANY_COLOUR);
        int largest = 0;
        for (int mark = 1; mark <= found; mark++) {
            largest = Math.max(largest, islands.sizeOf(mark));
        }
        return largest;
    }

    public int islandsOf(char colour) throws IllegalArgumentException {
        requireColour(colour);
        return islands.search(present, colour);
    }

    public boolean isJoined(int row, int column, int otherRow, int otherColumn) throws IndexOutOfBoundsException {
        requireCell(row, column);
        requireCell(otherRow, otherColumn);
        islands.search(present, ANY_COLOUR);
        int mark = islands.markOf(cellNumber(row, column));
        return mark != 0 && mark == islands.markOf(cellNumber(otherRow, otherColumn));
    }

    // ---- tides

    public int passTides(int tides) throws IllegalArgumentException {
        if (tides < 1 || tides > MOST_TIDES) {
            throw new IllegalArgumentException("1 to 20 tides");
        }
        history.keep(present);
        return sea.passSeveral(present, tides);
    }

    public boolean wouldLive(int row, int column) throws IndexOutOfBoundsException {
        requireCell(row, column);
        return present.livesAfterTide(cellNumber(row, column));
    }

    public int livingAfter(int tides) throws IllegalArgumentException {
        if (tides < 0 || tides > MOST_TIDES) {
            throw new IllegalArgumentException("0 to 20 tides");
        }
        trial.copyFrom(present);
        sea.passSeveral(trial, tides);
        return trial.count(ANY_COLOUR);
    }

    public boolean isStill() {
        return present.staysInTide();
    }

    public int tidesUntilStill() throws NoSuchElementException {
        int passed = tidesUntilTrialIsStill();
        if (passed > FORECAST_TIDES) {
            throw new NoSuchElementException("not still after 0 to 40 tides");
        }
        return passed;
    }

    public char rule() {
        return (char) present.rule.letter;
    }

    public boolean isBirth(int neighbours) throws IllegalArgumentException {
        requireNeighbours(neighbours);
        return present.rule.bearsWith(neighbours);
    }

    public boolean isSurvival(int neighbours) throws IllegalArgumentException {
        requireNeighbours(neighbours);
        return present.rule.sparesWith(neighbours);
    }

    public int tideCount() {
        return present.tides;
    }

    // ---- totals and orders

    public int placedCount() {
        return present.placed;
    }

    public int removedCount() {
        return present.removed;
    }

    public int bornCount() {
        return present.born;
    }

    public int bleachings() {
        return present.bleachings;
    }

    public int washedCount() {
        return present.washed;
    }

    public int rowByLiving(int position) throws NoSuchElementException {
        int found = -1;
        for (int row = 0; row < SIDE; row++) {
            if (rankOfRow(row) == position) {
                found = row;
            }
        }
        if (found < 0) {
            throw new NoSuchElementException("no such position");
        }
        return found;
    }

    public char colourByCount(int position) throws NoSuchElementException {
        char found = NOTHING;
        for (int index = 0; index < COLOURS; index++) {
            if (rankOfColour(colourNumbered(index)) == position) {
                found = colourNumbered(index);
            }
        }
        if (found == NOTHING) {
            throw new NoSuchElementException("no such position");
        }
        return found;
    }

    public double meanAge() throws ArithmeticException {
        int living = present.count(ANY_COLOUR);
        if (living == 0) {
            throw new ArithmeticException("no living buttons");
        }
        return (double) present.sumOfAges() / (double) living;
    }

    public float livingShare() throws ArithmeticException {
        int living = present.count(ANY_COLOUR);
        int buttons = living + present.count(PALE);
        if (buttons == 0) {
            throw new ArithmeticException("no buttons");
        }
        return (float) living / (float) buttons;
    }

    public boolean isConsistent() {
        int found = islands.search(present, ANY_COLOUR);
        int inIslands = 0;
        for (int mark = 1; mark <= found; mark++) {
            inIslands += islands.sizeOf(mark);
        }
        return inIslands == present.count(ANY_COLOUR)
            && found == islands.merge(present)
            && present.hasBalancedTotals()
            && present.hasFittingAges();
    }

    // ---- text output

    public int writeRow(int row) throws IndexOutOfBoundsException {
        if (row < 0 || row >= SIDE) {
            throw new IndexOutOfBoundsException("no such row");
        }
        output.empty();
        for (int column = 0; column < SIDE; column++) {
            output.add(present.signOf(cellNumber(row, column)));
        }
        return output.length;
    }

    public int writeRule() {
        output.empty();
        output.addText(present.rule.word);
        output.addText(" b");
        output.addNumbers(present.rule.births);
        output.addText("/s");
        output.addNumbers(present.rule.survivals);
        return output.length;
    }

    public char outputAt(int index) throws IndexOutOfBoundsException {
        if (index < 0 || index >= output.length) {
            throw new IndexOutOfBoundsException("no character at this index");
        }
        return output.signAt(index);
    }

    // ---- commands

    public int appendInput(char character) throws IllegalArgumentException, IllegalStateException {
        if (character < 32 || character > 126) {
            throw new IllegalArgumentException("a code from 32 to 126");
        }
        if (input.length >= INPUT_LIMIT) {
            throw new IllegalStateException("the input is full");
        }
        input.append(character);
        return input.length;
    }

    public int execute() throws IllegalArgumentException, IllegalStateException, UnsupportedOperationException {
        int commands = input.countCommands();
        if (commands < 0) {
            syntaxError = input.position;
            input.empty();
            throw new IllegalArgumentException("syntax error");
        }
        trial.copyFrom(present);
        input.rewind();
        int reason = NO_REASON;
        int number = 0;
        for (int i = 0; i < commands && reason == NO_REASON; i++) {
            number = i;
            reason = reasonAgainstNextCommand();
            if (reason == NO_REASON) {
                carryOutCommand();
            }
        }
        input.empty();
        if (reason == NOT_ACCEPTED) {
            throw new IllegalStateException("a cell or a number is out of range");
        }
        if (reason != NO_REASON) {
            noteRejection(COMMAND_REJECTED, number, reason);
            throw new UnsupportedOperationException("a command is rejected");
        }
        history.keep(present);
        present.copyFrom(trial);
        return commands;
    }

    public int syntaxErrorOffset() throws NoSuchElementException {
        if (syntaxError < 0) {
            throw new NoSuchElementException("no syntax error");
        }
        return syntaxError;
    }

    // ---- rejections and history

    public int rejectionReason() throws NoSuchElementException {
        if (latestReason == NO_REASON) {
            throw new NoSuchElementException("no call was rejected");
        }
        return latestReason;
    }

    public int rejectionDetail() throws NoSuchElementException {
        if (latestReason == NO_REASON) {
            throw new NoSuchElementException("no call was rejected");
        }
        return latestDetail;
    }

    public int causeReason() throws NoSuchElementException {
        if (latestReason != COMMAND_REJECTED) {
            throw new NoSuchElementException("no command was rejected");
        }
        return latestCause;
    }

    public int undo() throws IllegalStateException {
        if (history.size == 0) {
            throw new IllegalStateException("no change to undo");
        }
        history.takeBack(present);
        return history.size;
    }

    public int saveSnapshot() {
        snapshot.copyFrom(present);
        hasSnapshot = true;
        return present.count(ANY_COLOUR);
    }

    public int restoreSnapshot() throws IllegalStateException {
        if (!hasSnapshot) {
            throw new IllegalStateException("no snapshot");
        }
        present.copyFrom(snapshot);
        history.forget();
        return present.count(ANY_COLOUR);
    }

    // ---- what the calls of the face share

    private static boolean isInside(int row, int column) {
        return row >= 0 && row < SIDE && column >= 0 && column < SIDE;
    }

    private static int cellNumber(int row, int column) {
        return SIDE * row + column;
    }

    private static boolean isColour(char kind) {
        return kind >= FIRST_COLOUR && kind <= LAST_COLOUR;
    }

    private static char colourNumbered(int index) {
        return (char) (FIRST_COLOUR + index);
    }

    private static Rule ruleOf(char letter) {
        for (int i = 0; i < RULES.length; i++) {
            if (RULES[i].letter == letter) {
                return RULES[i];
            }
        }
        return null;
    }

    private static Pattern patternOf(char letter) {
        for (int i = 0; i < PATTERNS.length; i++) {
            if (PATTERNS[i].letter == letter) {
                return PATTERNS[i];
            }
        }
        return null;
    }

    private static void requireCell(int row, int column) {
        if (!isInside(row, column)) {
            throw new IndexOutOfBoundsException("no such cell");
        }
    }

    private static void requireColour(char colour) {
        if (!isColour(colour)) {
            throw new IllegalArgumentException("no such colour");
        }
    }

    private static void requireNeighbours(int neighbours) {
        if (neighbours < 0 || neighbours > MOST_NEIGHBOURS) {
            throw new IllegalArgumentException("0 to 8 neighbours");
        }
    }

    private void requireLiving(int row, int column) {
        if (!isColour(present.kindOf(cellNumber(row, column)))) {
            throw new NoSuchElementException("no living button");
        }
    }

    private void noteRejection(int reason, int detail, int cause) {
        latestReason = reason;
        latestDetail = detail;
        latestCause = cause;
    }

    private void rejectFor(int reason, int detail) {
        if (reason != NO_REASON) {
            noteRejection(reason, detail, NO_REASON);
            throw new UnsupportedOperationException("rejected");
        }
    }

    private void rejectUnlessLiving(int cell) {
        int reason = present.reasonAgainstAltering(cell);
        rejectFor(reason, reason == BLEACHED ? present.count(PALE) : cell);
    }

    /** One more than FORECAST_TIDES if the reef does not come to rest within them. */
    private int tidesUntilTrialIsStill() {
        trial.copyFrom(present);
        for (int passed = 0; passed <= FORECAST_TIDES; passed++) {
            if (trial.staysInTide()) {
                return passed;
            }
            sea.pass(trial);
        }
        return FORECAST_TIDES + 1;
    }

    private int rankOfRow(int row) {
        int rank = 0;
        for (int other = 0; other < SIDE; other++) {
            if (other != row && isRowAhead(other, row)) {
                rank++;
            }
        }
        return rank;
    }

    private boolean isRowAhead(int row, int other) {
        int living = present.countInRow(row, ANY_COLOUR);
        int otherLiving = present.countInRow(other, ANY_COLOUR);
        if (living != otherLiving) {
            return living > otherLiving;
        }
        int pale = present.countInRow(row, PALE);
        int otherPale = present.countInRow(other, PALE);
        return pale != otherPale ? pale > otherPale : row < other;
    }

    private int rankOfColour(char colour) {
        int count = present.count(colour);
        int rank = 0;
        for (int index = 0; index < COLOURS; index++) {
            char other = colourNumbered(index);
            int otherCount = present.count(other);
            if (otherCount > count || (otherCount == count && other < colour)) {
                rank++;
            }
        }
        return rank;
    }

    /** Reads the next command, which has yet to be carried out on the trial state. */
    private int reasonAgainstNextCommand() {
        if (!input.readCommand() || !input.isAccepted()) {
            return NOT_ACCEPTED;
        }
        int cell = cellNumber(input.row, input.column);
        switch (input.verb) {
            case PLACE:
                return trial.reasonAgainstPlacing(cell);
            case REMOVE:
                return trial.reasonAgainstRemoving(cell);
            case BLEACH:
            case COLOUR:
                return trial.reasonAgainstAltering(cell);
            case PLANT:
                return trial.reasonAgainstPlanting(input.row, input.column, input.pattern);
            case RULE:
                return trial.reasonAgainstRule(input.rule);
            default:
                return NO_REASON;
        }
    }

    private void carryOutCommand() {
        int cell = cellNumber(input.row, input.column);
        switch (input.verb) {
            case PLACE:
                trial.putPlaced(cell, input.colour);
                break;
            case REMOVE:
                trial.takeRemoved(cell);
                break;
            case BLEACH:
                trial.turnPale(cell);
                break;
            case COLOUR:
                trial.paint(cell, input.colour);
                break;
            case PLANT:
                trial.putPattern(input.row, input.column, input.pattern, input.colour);
                break;
            case RULE:
                trial.rule = input.rule;
                break;
            default:
                sea.passSeveral(trial, input.number);
                break;
        }
    }

    /** The sets of neighbour numbers are bits: bit n stands for n neighbours. */
    private enum Rule {
        CALM('c', "calm", 0b1000, 0b1100),
        BUSY('b', "busy", 0b1001000, 0b1100),
        SLOW('s', "slow", 0b1000, 0b111110);

        final int letter;
        final String word;
        final int births;
        final int survivals;

        Rule(int letter, String word, int births, int survivals) {
            this.letter = letter;
            this.word = word;
            this.births = births;
            this.survivals = survivals;
        }

        boolean bearsWith(int living) {
            return (births >> living & 1) == 1;
        }

        boolean sparesWith(int living) {
            return (survivals >> living & 1) == 1;
        }
    }

    /**
     * Two digits a cell: its distances downwards and to the right. The cells ascend by number, so that the first one
     * that is found taken is the lowest.
     */
    private enum Pattern {
        SQUARE('q', "00011011"),
        LINE('l', "000102"),
        CROSS('x', "0110111221"),
        GLIDER('g', "0112202122");

        final int letter;
        private final String distances;

        Pattern(int letter, String distances) {
            this.letter = letter;
            this.distances = distances;
        }

        int size() {
            return distances.length() / 2;
        }

        /** The number of a cell of the pattern that begins at a row and a column, -1 if it is outside the grid. */
        int cellFrom(int row, int column, int index) {
            int inRow = row + digit(2 * index);
            int inColumn = column + digit(2 * index + 1);
            return isInside(inRow, inColumn) ? cellNumber(inRow, inColumn) : -1;
        }

        private int digit(int index) {
            return index >= 0 && index < distances.length() ? distances.charAt(index) - '0' : 0;
        }
    }

    private enum Verb {
        PLACE("place ", true, true),
        REMOVE("remove ", true, false),
        BLEACH("bleach ", true, false),
        COLOUR("colour ", true, true),
        PLANT("plant ", true, true),
        RULE("rule ", false, false),
        TIDE("tide ", false, false);

        final String start;
        final boolean hasCell;
        final boolean hasColour;

        Verb(String start, boolean hasCell, boolean hasColour) {
            this.start = start;
            this.hasCell = hasCell;
            this.hasColour = hasColour;
        }
    }

    /** All that undo and the snapshot cover. The age of a cell without a living button is 0. */
    private static final class State {
        private final char[] kinds = new char[CELLS];
        private final int[] ages = new int[CELLS];
        Rule rule = Rule.CALM;
        int tides = 0;
        int placed = 0;
        int removed = 0;
        int born = 0;
        int bleachings = 0;
        int washed = 0;

        void copyFrom(State other) {
            System.arraycopy(other.kinds, 0, kinds, 0, CELLS);
            System.arraycopy(other.ages, 0, ages, 0, CELLS);
            rule = other.rule;
            tides = other.tides;
            placed = other.placed;
            removed = other.removed;
            born = other.born;
            bleachings = other.bleachings;
            washed = other.washed;
        }

        char kindOf(int cell) {
            return cell >= 0 && cell < CELLS ? kinds[cell] : NOTHING;
        }

        int ageOf(int cell) {
            return cell >= 0 && cell < CELLS ? ages[cell] : 0;
        }

        boolean holds(int cell, char kind) {
            char held = kindOf(cell);
            return kind == ANY_COLOUR ? isColour(held) : held == kind;
        }

        char signOf(int cell) {
            char kind = kindOf(cell);
            if (kind == NOTHING) {
                return '.';
            }
            return isColour(kind) && ageOf(cell) >= CAPITAL_AGE ? (char) (kind - 'a' + 'A') : kind;
        }

        int count(char kind) {
            int count = 0;
            for (int cell = 0; cell < CELLS; cell++) {
                if (holds(cell, kind)) {
                    count++;
                }
            }
            return count;
        }

        int countInRow(int row, char kind) {
            int count = 0;
            for (int column = 0; column < SIDE; column++) {
                if (holds(cellNumber(row, column), kind)) {
                    count++;
                }
            }
            return count;
        }

        int countAround(int cell, char kind) {
            int row = cell / SIDE;
            int column = cell % SIDE;
            int count = 0;
            for (int down = -1; down <= 1; down++) {
                for (int right = -1; right <= 1; right++) {
                    boolean isItself = down == 0 && right == 0;
                    if (!isItself && isInside(row + down, column + right)) {
                        char held = kindOf(cellNumber(row + down, column + right));
                        count += held == kind || kind == ANY_COLOUR && isColour(held) ? 1 : 0;
                    }
                }
            }
            return count;
        }

        /** NOTHING if there are no living neighbours. */
        char mostColourAround(int cell) {
            char best = NOTHING;
            int most = 0;
            for (int index = 0; index < COLOURS; index++) {
                int count = countAround(cell, colourNumbered(index));
                if (count > most) {
                    most = count;
                    best = colourNumbered(index);
                }
            }
            return best;
        }

        int sumOfAges() {
            int sum = 0;
            for (int cell = 0; cell < CELLS; cell++) {
                sum += ages[cell];
            }
            return sum;
        }

        boolean hasBalancedTotals() {
            int buttons = count(PALE);
            for (int index = 0; index < COLOURS; index++) {
                buttons += count(colourNumbered(index));
            }
            return placed + born - removed - washed == buttons;
        }

        boolean hasFittingAges() {
            boolean fit = true;
            for (int cell = 0; cell < CELLS; cell++) {
                int oldest = isColour(kinds[cell]) ? OLDEST : 0;
                fit = fit && ages[cell] >= 0 && ages[cell] <= oldest;
            }
            return fit;
        }

        /** Whether a button would be born, bleached or washed away in a cell by a tide. */
        boolean changesInTide(int cell) {
            int living = countAround(cell, ANY_COLOUR);
            char kind = kindOf(cell);
            if (kind == NOTHING) {
                return rule.bearsWith(living);
            }
            return kind == PALE ? living == 0 : !rule.sparesWith(living);
        }

        boolean livesAfterTide(int cell) {
            char kind = kindOf(cell);
            return kind != PALE && (kind == NOTHING) == changesInTide(cell);
        }

        boolean staysInTide() {
            for (int cell = 0; cell < CELLS; cell++) {
                if (changesInTide(cell)) {
                    return false;
                }
            }
            return true;
        }

        int reasonAgainstPlacing(int cell) {
            return kindOf(cell) == NOTHING ? NO_REASON : OCCUPIED;
        }

        int reasonAgainstRemoving(int cell) {
            return kindOf(cell) == NOTHING ? NO_BUTTON : NO_REASON;
        }

        int reasonAgainstAltering(int cell) {
            char kind = kindOf(cell);
            if (kind == NOTHING) {
                return NO_BUTTON;
            }
            return kind == PALE ? BLEACHED : NO_REASON;
        }

        int reasonAgainstPlanting(int row, int column, Pattern pattern) {
            for (int index = 0; index < pattern.size(); index++) {
                if (pattern.cellFrom(row, column, index) < 0) {
                    return OUTSIDE;
                }
            }
            return firstTakenCell(row, column, pattern) < 0 ? NO_REASON : OCCUPIED;
        }

        int reasonAgainstRule(Rule wanted) {
            return rule == wanted ? SAME_RULE : NO_REASON;
        }

        /** -1 if all cells of the pattern are empty. */
        int firstTakenCell(int row, int column, Pattern pattern) {
            for (int index = 0; index < pattern.size(); index++) {
                int cell = pattern.cellFrom(row, column, index);
                if (kindOf(cell) != NOTHING) {
                    return cell;
                }
            }
            return -1;
        }

        void putPlaced(int cell, char colour) {
            put(cell, colour);
            placed++;
        }

        void putPattern(int row, int column, Pattern pattern, char colour) {
            for (int index = 0; index < pattern.size(); index++) {
                putPlaced(pattern.cellFrom(row, column, index), colour);
            }
        }

        void putBorn(int cell, char colour) {
            put(cell, colour);
            born++;
        }

        void takeRemoved(int cell) {
            put(cell, NOTHING);
            removed++;
        }

        void takeWashed(int cell) {
            put(cell, NOTHING);
            washed++;
        }

        void turnPale(int cell) {
            put(cell, PALE);
            bleachings++;
        }

        void paint(int cell, char colour) {
            if (cell >= 0 && cell < CELLS) {
                kinds[cell] = colour;
            }
        }

        void growOlder(int cell) {
            if (cell >= 0 && cell < CELLS) {
                ages[cell] = Math.min(ages[cell] + 1, OLDEST);
            }
        }

        private void put(int cell, char kind) {
            if (cell >= 0 && cell < CELLS) {
                kinds[cell] = kind;
                ages[cell] = 0;
            }
        }
    }

    private static final class Sea {
        /** All cells change at once, so they change by a copy that stays as it was ahead of the tide. */
        private final State ahead = new State();

        int passSeveral(State state, int number) {
            int bornBefore = state.born;
            for (int passed = 0; passed < number; passed++) {
                pass(state);
            }
            return state.born - bornBefore;
        }

        void pass(State state) {
            ahead.copyFrom(state);
            for (int cell = 0; cell < CELLS; cell++) {
                char kind = ahead.kindOf(cell);
                boolean changes = ahead.changesInTide(cell);
                if (isColour(kind) && changes) {
                    state.turnPale(cell);
                } else if (isColour(kind)) {
                    state.growOlder(cell);
                } else if (kind == PALE && changes) {
                    state.takeWashed(cell);
                } else if (changes) {
                    state.putBorn(cell, ahead.mostColourAround(cell));
                }
            }
            state.tides++;
        }
    }

    /** The states ahead of the latest changes, in a ring whose slots are used again. */
    private static final class History {
        private final State[] slots = new State[UNDO_LIMIT];
        private int next = 0;
        int size = 0;

        History() {
            for (int i = 0; i < UNDO_LIMIT; i++) {
                slots[i] = new State();
            }
        }

        void keep(State state) {
            State slot = nextSlot();
            if (slot != null) {
                slot.copyFrom(state);
            }
            next = next < UNDO_LIMIT - 1 ? next + 1 : 0;
            size = Math.min(size + 1, UNDO_LIMIT);
        }

        void takeBack(State state) {
            next = next > 0 ? next - 1 : UNDO_LIMIT - 1;
            size = Math.max(size - 1, 0);
            State slot = nextSlot();
            if (slot != null) {
                state.copyFrom(slot);
            }
        }

        void forget() {
            size = 0;
        }

        private State nextSlot() {
            return next >= 0 && next < UNDO_LIMIT ? slots[next] : null;
        }
    }

    /** Finds islands; the mark of a cell tells its island until the next question, 0 for none. */
    private static final class Islands {
        private final int[] marks = new int[CELLS];
        private final int[] queue = new int[CELLS];
        private int queued = 0;

        int markOf(int cell) {
            return cell >= 0 && cell < CELLS ? marks[cell] : 0;
        }

        int sizeOf(int mark) {
            int size = 0;
            for (int cell = 0; cell < CELLS; cell++) {
                if (marks[cell] == mark) {
                    size++;
                }
            }
            return size;
        }

        /** Marks the islands with 1, 2, .. and answers their number. */
        int search(State state, char colour) {
            for (int cell = 0; cell < CELLS; cell++) {
                marks[cell] = 0;
            }
            int found = 0;
            for (int cell = 0; cell < CELLS; cell++) {
                if (marks[cell] == 0 && state.holds(cell, colour)) {
                    found++;
                    spread(state, cell, colour, found);
                }
            }
            return found;
        }

        private void spread(State state, int start, char colour, int mark) {
            queued = 0;
            reach(state, start, colour, mark);
            for (int next = 0; next < queued && next < CELLS; next++) {
                int cell = queue[next];
                if (cell % SIDE > 0) {
                    reach(state, cell - 1, colour, mark);
                }
                if (cell % SIDE < SIDE - 1) {
                    reach(state, cell + 1, colour, mark);
                }
                reach(state, cell - SIDE, colour, mark);
                reach(state, cell + SIDE, colour, mark);
            }
        }

        private void reach(State state, int cell, char colour, int mark) {
            if (cell < 0 || cell >= CELLS || queued < 0 || queued >= CELLS) {
                return;
            }
            if (marks[cell] == 0 && state.holds(cell, colour)) {
                marks[cell] = mark;
                queue[queued] = cell;
                queued++;
            }
        }

        /** Begins with a set for each living button; each merging of two sets leaves one set less. */
        int merge(State state) {
            int sets = 0;
            for (int cell = 0; cell < CELLS; cell++) {
                boolean counts = state.holds(cell, ANY_COLOUR);
                marks[cell] = counts ? cell + 1 : 0;
                sets += counts ? 1 : 0;
            }
            for (int cell = 0; cell < CELLS; cell++) {
                if (cell % SIDE < SIDE - 1 && joinSets(markOf(cell), markOf(cell + 1))) {
                    sets--;
                }
                if (joinSets(markOf(cell), markOf(cell + SIDE))) {
                    sets--;
                }
            }
            return sets;
        }

        private boolean joinSets(int kept, int lost) {
            if (kept == 0 || lost == 0 || kept == lost) {
                return false;
            }
            for (int cell = 0; cell < CELLS; cell++) {
                if (marks[cell] == lost) {
                    marks[cell] = kept;
                }
            }
            return true;
        }
    }

    private static final class Output {
        private final char[] signs = new char[OUTPUT_LIMIT];
        int length = 0;

        void empty() {
            length = 0;
        }

        void add(char sign) {
            if (length >= 0 && length < OUTPUT_LIMIT) {
                signs[length] = sign;
                length++;
            }
        }

        void addText(String text) {
            for (int i = 0; i < text.length(); i++) {
                add(text.charAt(i));
            }
        }

        void addNumbers(int bits) {
            for (int number = 0; number <= MOST_NEIGHBOURS; number++) {
                if ((bits >> number & 1) == 1) {
                    add((char) ('0' + number));
                }
            }
        }

        char signAt(int index) {
            return index >= 0 && index < OUTPUT_LIMIT ? signs[index] : NOTHING;
        }
    }

    /**
     * The input, and the parts of the command that was read last. A reading that fails leaves the position at the first
     * character that cannot stand there, or at the end: the offset of the syntax error.
     */
    private static final class CommandText {
        private final char[] signs = new char[INPUT_LIMIT];
        int length = 0;
        int position = 0;
        Verb verb = Verb.TIDE;
        int row = 0;
        int column = 0;
        int number = 0;
        private boolean wasLast = false;
        char colour = FIRST_COLOUR;
        Pattern pattern = Pattern.SQUARE;
        Rule rule = Rule.CALM;

        void append(char sign) {
            if (length >= 0 && length < INPUT_LIMIT) {
                signs[length] = sign;
                length++;
            }
        }

        void empty() {
            length = 0;
        }

        void rewind() {
            position = 0;
        }

        /** -1 if there is a syntax error. */
        int countCommands() {
            rewind();
            for (int count = 1; count <= INPUT_LIMIT; count++) {
                if (!readCommand()) {
                    return -1;
                }
                if (wasLast) {
                    return count;
                }
            }
            return -1;
        }

        boolean readCommand() {
            Verb found = readVerb();
            if (found == null) {
                return false;
            }
            verb = found;
            return readArguments() && readEnd();
        }

        /** Whether the methods of the face would take the cell and the number of the command. */
        boolean isAccepted() {
            if (verb == Verb.TIDE) {
                return number >= 1 && number <= MOST_TIDES;
            }
            return !verb.hasCell || isInside(row, column);
        }

        private boolean readArguments() {
            if (verb == Verb.RULE) {
                return readRuleWord();
            }
            if (verb == Verb.TIDE) {
                return readNumber();
            }
            if (!readCell()) {
                return false;
            }
            if (!verb.hasColour) {
                return true;
            }
            return readSign(' ') && (verb != Verb.PLANT || readPattern()) && readColour();
        }

        private boolean readEnd() {
            wasLast = position >= length;
            return wasLast || readSign(';');
        }

        private Verb readVerb() {
            Verb found = null;
            int longest = 0;
            for (int i = 0; i < VERBS.length; i++) {
                int matched = countMatching(VERBS[i].start);
                longest = Math.max(longest, matched);
                if (matched == VERBS[i].start.length()) {
                    found = VERBS[i];
                }
            }
            position += longest;
            return found;
        }

        private boolean readRuleWord() {
            boolean isWhole = false;
            int longest = 0;
            for (int i = 0; i < RULES.length; i++) {
                int matched = countMatching(RULES[i].word);
                longest = Math.max(longest, matched);
                if (matched == RULES[i].word.length()) {
                    isWhole = true;
                    rule = RULES[i];
                }
            }
            position += longest;
            return isWhole;
        }

        private boolean readCell() {
            if (!hasDigit()) {
                return false;
            }
            row = nextDigit();
            if (!hasDigit()) {
                return false;
            }
            column = nextDigit();
            return true;
        }

        private boolean readNumber() {
            if (!hasDigit()) {
                return false;
            }
            number = nextDigit();
            if (hasDigit()) {
                number = 10 * number + nextDigit();
            }
            return true;
        }

        private boolean readPattern() {
            Pattern found = patternOf(signAt(position));
            if (found == null) {
                return false;
            }
            pattern = found;
            position++;
            return true;
        }

        private boolean readColour() {
            if (!isColour(signAt(position))) {
                return false;
            }
            colour = signAt(position);
            position++;
            return true;
        }

        private boolean readSign(char sign) {
            if (signAt(position) != sign) {
                return false;
            }
            position++;
            return true;
        }

        private boolean hasDigit() {
            return signAt(position) >= '0' && signAt(position) <= '9';
        }

        private int nextDigit() {
            int digit = signAt(position) - '0';
            position++;
            return digit;
        }

        /** How many characters of a word stand at the position, from its first one on. */
        private int countMatching(String word) {
            int matched = 0;
            while (matched < word.length() && signAt(position + matched) == word.charAt(matched)) {
                matched++;
            }
            return matched;
        }

        /** NOTHING, which no input holds, behind the end. */
        private char signAt(int index) {
            return index >= 0 && index < length && index < INPUT_LIMIT ? signs[index] : NOTHING;
        }
    }
}
