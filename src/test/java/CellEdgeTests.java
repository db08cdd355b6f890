import java.util.ArrayList;
import java.util.List;

/** Promises 1 to 18: each boundary case that a sentence of them names. */
public final class CellEdgeTests {
    private static final int[] CORNER_ROWS = {0, 0, 7, 7};
    private static final int[] CORNER_COLUMNS = {0, 7, 0, 7};
    private static final int[] CORNER_CELLS = {0, 7, 56, 63};

    private CellEdgeTests() {
    }

    public static void main(String[] args) {
        promise1();
        promise2();
        promise3();
        promise4();
        promise5();
        promise6();
        promise7();
        promises8To10();
        promises11And12();
        promises13To15();
        promises16To18();
        Check.end();
    }

    private static void promise1() {
        newReefIsEmpty();
        newReefHasTheCalmRule();
        newReefHasNoHistory();
        newReefsAreApart();
        twoReefsInTurnAreApart();
    }

    private static void promise2() {
        placeInTheCorners();
        placeWithTheFirstAndTheLastColour();
        placeReturnsTheLivingButtons();
        placeOfAgeNought();
        placeWithoutSuchACell();
        placeWithoutSuchAColour();
        placeInATakenCell();
        placeWhereSeveralExceptionsApply();
    }

    private static void promise3() {
        removeInTheCorners();
        removeReturnsTheLivingButtons();
        removeWithoutSuchACell();
        removeOfNoButton();
    }

    private static void promise4() {
        bleachInTheCorners();
        bleachReturnsTheAge();
        bleachWithoutSuchACell();
        bleachOfNoButton();
        bleachOfABleachedButton();
    }

    private static void promise5() {
        recolourWithEveryColour();
        recolourKeepsTheAge();
        recolourWithoutSuchACell();
        recolourWithoutSuchAColour();
        recolourOfNoButton();
        recolourOfABleachedButton();
        recolourWhereSeveralExceptionsApply();
    }

    private static void promise6() {
        plantAtTheLastCells();
        plantWithEveryColour();
        plantWithoutSuchACell();
        plantWithoutSuchAPattern();
        plantWithoutSuchAColour();
        plantOutside();
        plantOnATakenCell();
        plantOutsideAndOnATakenCell();
        plantWhereSeveralExceptionsApply();
    }

    private static void promise7() {
        setRuleReturnsThePreviousOne();
        setRuleWithoutSuchARule();
        setRuleToTheSame();
    }

    // ---- promise 1

    private static void newReefIsEmpty() {
        Check.begin("promise 1, \"an empty reef\"");
        Reef reef = Reef.fresh();
        Check.same("the rows", ("......../".repeat(8)).substring(0, 71), Look.rows(reef));
        int[] counts = {reef.livingCount(), reef.bleachedCount(), reef.countOf('a'), reef.countOf('b'), reef.countOf('c'),
            reef.countOf('d'), reef.islandCount(), reef.islandCountByMerging(), reef.largestIsland(), reef.islandsOf('a'),
            reef.islandsOf('d'), reef.tideCount(), reef.placedCount(), reef.removedCount(), reef.bornCount(),
            reef.bleachings(), reef.washedCount(), reef.livingAfter(0), reef.livingAfter(20), reef.tidesUntilStill()};
        for (int i = 0; i < counts.length; i++) {
            Check.same("count " + i, 0, counts[i]);
        }
        Check.same("isStill()", true, reef.isStill());
        Check.same("isConsistent()", true, reef.isConsistent());
        for (int i = 0; i < 4; i++) {
            Check.same("neighbours of a corner", 0, reef.neighbours(CORNER_ROWS[i], CORNER_COLUMNS[i]));
            Check.same("wouldLive in a corner", false, reef.wouldLive(CORNER_ROWS[i], CORNER_COLUMNS[i]));
        }
    }

    private static void newReefHasTheCalmRule() {
        Check.begin("promise 1, \"with the calm rule\"");
        Reef reef = Reef.fresh();
        Check.same("rule()", 'c', reef.rule());
        Check.same("isBirth(6)", false, reef.isBirth(6));
        Check.same("isSurvival(1)", false, reef.isSurvival(1));
        Edges.rejects("setRule(c)", reef, ButtonReef.SAME_RULE, 0, () -> reef.setRule('c'));
    }

    private static void newReefHasNoHistory() {
        Check.begin("promise 1, a new object");
        Reef reef = Reef.fresh();
        Edges.fails("undo()", Edges.BAD_STATE, reef, reef::undo);
        Edges.fails("restoreSnapshot()", Edges.BAD_STATE, reef, reef::restoreSnapshot);
        Edges.fails("rejectionReason()", Edges.NO_ELEMENT, reef, reef::rejectionReason);
        Edges.fails("rejectionDetail()", Edges.NO_ELEMENT, reef, reef::rejectionDetail);
        Edges.fails("causeReason()", Edges.NO_ELEMENT, reef, reef::causeReason);
        Edges.fails("syntaxErrorOffset()", Edges.NO_ELEMENT, reef, reef::syntaxErrorOffset);
        Edges.fails("outputAt(0)", Edges.NO_INDEX, reef, () -> reef.outputAt(0));
        Edges.fails("meanAge()", ArithmeticException.class, reef, reef::meanAge);
        Edges.fails("livingShare()", ArithmeticException.class, reef, reef::livingShare);
        Edges.isEmptyInput("of a new reef", reef);
    }

    private static void newReefsAreApart() {
        Check.begin("promise 1, each object for itself");
        Reef other = Reef.fresh();
        String before = Look.all(other);
        Edges.lived();
        Check.same("another reef", before, Look.all(other));
        Check.same("a later reef", before, Look.all(Reef.fresh()));
    }

    private interface Call {
        Object run(Reef reef);
    }

    private static void twoReefsInTurnAreApart() {
        Check.begin("promise 1, each object for itself, call by call in turn");
        List<Call> calls = life('l', 'b', 's', "rule busy;place 77 d", "tide 1;rule slow", "tide 1;tidy");
        List<Call> otherCalls = life('q', 'c', 'b', "place 00 a;bleach 00", "bleach 77;tide 1", "tide 1;rude");
        List<Object> due = answers(Reef.fresh(), calls);
        List<Object> otherDue = answers(Reef.fresh(), otherCalls);
        Check.same("the number of calls of one and of the other", due.size(), otherDue.size());
        Reef reef = Reef.fresh();
        Reef other = Reef.fresh();
        for (int i = 0; i < due.size(); i++) {
            Check.same("call " + i + " of one", due.get(i), answer(reef, calls.get(i)));
            Check.same("call " + i + " of the other", otherDue.get(i), answer(other, otherCalls.get(i)));
        }
    }

    /** Calls that keep something in all that a reef can keep, and ask for it. */
    private static List<Call> life(char pattern, char colour, char rule, String taken, String rejected, String wrong) {
        List<Call> calls = new ArrayList<>();
        calls.add(reef -> reef.plant(3, 2, pattern, colour));
        calls.add(reef -> reef.place(pattern % 8, 0, colour));
        calls.add(Reef::saveSnapshot);
        calls.add(reef -> reef.passTides(pattern % 3 + 1));
        calls.add(reef -> reef.plant(5, 2, pattern, colour));
        calls.add(reef -> reef.plant(pattern % 7, 2, 'x', 'a'));
        type(calls, taken);
        calls.add(Reef::execute);
        calls.add(reef -> reef.setRule(rule));
        type(calls, rejected);
        calls.add(Reef::writeRule);
        askAll(calls);
        calls.add(Reef::execute);
        askAll(calls);
        type(calls, wrong);
        calls.add(Reef::execute);
        calls.add(reef -> reef.remove(5, 3));
        askAll(calls);
        for (int i = 0; i < 3; i++) {
            calls.add(Reef::undo);
            calls.add(reef -> reef.writeRow(5));
            askAll(calls);
        }
        calls.add(Reef::restoreSnapshot);
        calls.add(reef -> reef.writeRow(3));
        askAll(calls);
        return calls;
    }

    private static void type(List<Call> calls, String text) {
        for (char sign : text.toCharArray()) {
            calls.add(reef -> reef.appendInput(sign));
        }
    }

    private static void askAll(List<Call> calls) {
        for (int i = 0; i < 8; i++) {
            int index = i;
            calls.add(reef -> reef.outputAt(index));
        }
        calls.addAll(List.of(Reef::livingCount, Reef::bleachedCount, Reef::rule, Reef::tideCount, Reef::placedCount,
            Reef::removedCount, Reef::bornCount, Reef::bleachings, Reef::washedCount, Reef::islandCount,
            Reef::islandCountByMerging, Reef::largestIsland, Reef::tidesUntilStill, Reef::meanAge,
            reef -> reef.livingAfter(3), reef -> reef.rowByLiving(0), reef -> reef.colourByCount(0)));
        calls.addAll(List.of(Reef::rejectionReason, Reef::rejectionDetail, Reef::causeReason, Reef::syntaxErrorOffset));
    }

    private static List<Object> answers(Reef reef, List<Call> calls) {
        List<Object> found = new ArrayList<>();
        for (Call call : calls) {
            found.add(answer(reef, call));
        }
        return found;
    }

    private static Object answer(Reef reef, Call call) {
        return Check.outcome(() -> call.run(reef));
    }

    // ---- promise 2

    private static void placeInTheCorners() {
        Check.begin("promise 2, the least and the greatest row and column");
        Reef reef = Reef.fresh();
        for (int i = 0; i < 4; i++) {
            Check.same("place in corner " + i, i + 1, reef.place(CORNER_ROWS[i], CORNER_COLUMNS[i], 'a'));
            Check.same("isLiving in corner " + i, true, reef.isLiving(CORNER_ROWS[i], CORNER_COLUMNS[i]));
        }
        Check.same("the rows", "a......a/" + "......../".repeat(6) + "a......a", Look.rows(reef));
    }

    private static void placeWithTheFirstAndTheLastColour() {
        Check.begin("promise 2, \"the colour, 'a' to 'd'\"");
        for (char colour : Look.COLOURS.toCharArray()) {
            Reef reef = Reef.fresh();
            Check.same("place of " + colour, 1, reef.place(3, 4, colour));
            Check.same("colourAt of " + colour, colour, reef.colourAt(3, 4));
            Check.same("countOf " + colour, 1, reef.countOf(colour));
        }
    }

    private static void placeReturnsTheLivingButtons() {
        Check.begin("promise 2, \"Returns the number of living buttons after the call\"");
        Reef reef = Reef.fresh();
        for (int cell = 0; cell < 64; cell++) {
            Check.same("place number " + cell, cell + 1, reef.place(cell / 8, cell % 8, 'a'));
        }
        Check.same("livingCount() of a full reef", 64, reef.livingCount());
        Reef bleached = Look.reef("##", "##");
        Check.same("place beside bleached buttons", 1, bleached.place(7, 7, 'a'));
    }

    private static void placeOfAgeNought() {
        Check.begin("promise 2, \"a living button of age 0\"");
        Reef reef = Look.reef("aa", "aa");
        reef.passTides(9);
        reef.remove(0, 0);
        reef.place(0, 0, 'b');
        Check.same("ageAt where an old button was", 0, reef.ageAt(0, 0));
        Check.same("ageAt beside it", 9, reef.ageAt(0, 1));
        reef.bleach(0, 1);
        reef.remove(0, 1);
        reef.place(0, 1, 'b');
        Check.same("ageAt where a bleached button was", 0, reef.ageAt(0, 1));
    }

    private static void placeWithoutSuchACell() {
        Check.begin("promise 2, \"Throws IndexOutOfBoundsException if there is no such cell\"");
        Edges.refusesCells("place", (reef, row, column) -> reef.place(row, column, 'a'));
    }

    private static void placeWithoutSuchAColour() {
        Check.begin("promise 2, \"Throws IllegalArgumentException if there is no such colour\"");
        Edges.refusesColours("place", (reef, colour) -> reef.place(4, 1, colour));
    }

    private static void placeInATakenCell() {
        Check.begin("promise 2, OCCUPIED, \"The detail is the number of the cell\"");
        for (int cell = 0; cell < 64; cell++) {
            int row = cell / 8;
            int column = cell % 8;
            Reef living = Reef.fresh();
            living.place(row, column, 'b');
            Edges.rejects("place on a living button", living, ButtonReef.OCCUPIED, cell,
                () -> living.place(row, column, 'b'));
            living.bleach(row, column);
            Edges.rejects("place on a bleached button", living, ButtonReef.OCCUPIED, cell,
                () -> living.place(row, column, 'c'));
        }
        Reef lived = Edges.lived();
        Edges.rejects("place in a reef that has lived", lived, ButtonReef.OCCUPIED, 63, () -> lived.place(7, 7, 'a'));
    }

    private static void placeWhereSeveralExceptionsApply() {
        Check.begin("promise 2, \"the one that is listed first is thrown\"");
        Edges.refusesCells("place of no colour", (reef, row, column) -> reef.place(row, column, 'e'));
        Edges.refusesColours("place on a living button", (reef, colour) -> reef.place(0, 0, colour));
        Edges.refusesColours("place on a bleached button", (reef, colour) -> reef.place(7, 7, colour));
    }

    // ---- promise 3

    private static void removeInTheCorners() {
        Check.begin("promise 3, the least and the greatest row and column");
        Reef reef = Edges.full('a');
        for (int i = 0; i < 4; i++) {
            Check.same("remove in corner " + i, 63 - i, reef.remove(CORNER_ROWS[i], CORNER_COLUMNS[i]));
            Check.same("isEmpty in corner " + i, true, reef.isEmpty(CORNER_ROWS[i], CORNER_COLUMNS[i]));
        }
        Check.same("the rows", ".aaaaaa./" + "aaaaaaaa/".repeat(6) + ".aaaaaa.", Look.rows(reef));
    }

    private static void removeReturnsTheLivingButtons() {
        Check.begin("promise 3, \"Returns the number of living buttons after the call\"");
        Reef reef = Look.reef("a#b");
        Check.same("remove of a bleached button", 2, reef.remove(0, 1));
        Check.same("remove of a living button", 1, reef.remove(0, 0));
        Check.same("remove of the last button", 0, reef.remove(0, 2));
        Check.same("removedCount()", 3, reef.removedCount());
        Check.same("bleachedCount()", 0, reef.bleachedCount());
        Reef pale = Look.reef("a##b#");
        Check.same("remove of a living button among bleached ones", 1, pale.remove(0, 0));
        Check.same("remove of a bleached button among bleached ones", 1, pale.remove(0, 1));
        Check.same("remove of the last living button", 0, pale.remove(0, 3));
    }

    private static void removeWithoutSuchACell() {
        Check.begin("promise 3, \"Throws IndexOutOfBoundsException if there is no such cell\"");
        Edges.refusesCells("remove", (reef, row, column) -> reef.remove(row, column));
    }

    private static void removeOfNoButton() {
        Check.begin("promise 3, NO_BUTTON, \"The detail is the number of the cell\"");
        Reef reef = Reef.fresh();
        for (int cell = 0; cell < 64; cell++) {
            int row = cell / 8;
            int column = cell % 8;
            Check.fails("remove of cell " + cell, Edges.REJECTED, () -> reef.remove(row, column));
            Check.same("its reason", 2, reef.rejectionReason());
            Check.same("its detail", cell, reef.rejectionDetail());
        }
        Reef lived = Edges.lived();
        Edges.rejects("remove of a removed button", lived, ButtonReef.NO_BUTTON, 25, () -> lived.remove(3, 1));
        Reef empty = Reef.fresh();
        Edges.rejects("remove in an empty reef", empty, ButtonReef.NO_BUTTON, 0, () -> empty.remove(0, 0));
    }

    // ---- promise 4

    private static void bleachInTheCorners() {
        Check.begin("promise 4, the least and the greatest row and column");
        Reef reef = Edges.full('a');
        for (int i = 0; i < 4; i++) {
            Check.same("bleach in corner " + i, 0, reef.bleach(CORNER_ROWS[i], CORNER_COLUMNS[i]));
            Check.same("isBleached in corner " + i, true, reef.isBleached(CORNER_ROWS[i], CORNER_COLUMNS[i]));
            Check.same("bleachings() after corner " + i, i + 1, reef.bleachings());
        }
        Check.same("the rows", "#aaaaaa#/" + "aaaaaaaa/".repeat(6) + "#aaaaaa#", Look.rows(reef));
    }

    private static void bleachReturnsTheAge() {
        Check.begin("promise 4, \"Returns the age that it had\"");
        for (int tides = 0; tides <= 11; tides++) {
            Reef reef = Look.reef("aa", "aa");
            if (tides > 0) {
                reef.passTides(tides);
            }
            Check.same("bleach after " + tides + " tides", Math.min(tides, 9), reef.bleach(0, 1));
            Check.same("livingCount()", 3, reef.livingCount());
            Check.same("bleachedCount()", 1, reef.bleachedCount());
        }
    }

    private static void bleachWithoutSuchACell() {
        Check.begin("promise 4, \"Throws IndexOutOfBoundsException if there is no such cell\"");
        Edges.refusesCells("bleach", (reef, row, column) -> reef.bleach(row, column));
    }

    private static void bleachOfNoButton() {
        Check.begin("promise 4, NO_BUTTON, \"The detail is the number of the cell\"");
        for (int i = 0; i < 4; i++) {
            int corner = i;
            Reef reef = Reef.fresh();
            Edges.rejects("bleach in corner " + i, reef, ButtonReef.NO_BUTTON, CORNER_CELLS[i],
                () -> reef.bleach(CORNER_ROWS[corner], CORNER_COLUMNS[corner]));
        }
        Reef lived = Edges.lived();
        Edges.rejects("bleach of a removed button", lived, ButtonReef.NO_BUTTON, 25, () -> lived.bleach(3, 1));
    }

    private static void bleachOfABleachedButton() {
        Check.begin("promise 4, BLEACHED, \"The detail is the number of bleached buttons\"");
        Reef one = Look.reef("a#");
        Edges.rejects("bleach of the only one", one, ButtonReef.BLEACHED, 1, () -> one.bleach(0, 1));
        Reef three = Look.reef("###a");
        Edges.rejects("bleach of one of three", three, ButtonReef.BLEACHED, 3, () -> three.bleach(0, 0));
        three.remove(0, 0);
        Edges.rejects("bleach of one of two", three, ButtonReef.BLEACHED, 2, () -> three.bleach(0, 1));
        Reef all = Edges.full('#');
        Edges.rejects("bleach of one of 64", all, ButtonReef.BLEACHED, 64, () -> all.bleach(7, 7));
        Reef lived = Edges.lived();
        Edges.rejects("bleach in a reef that has lived", lived, ButtonReef.BLEACHED, lived.bleachedCount(),
            () -> lived.bleach(2, 1));
        Reef byTide = Look.reef("a", "", "b");
        byTide.passTides(1);
        Edges.rejects("bleach of one that a tide has bleached", byTide, ButtonReef.BLEACHED, 2,
            () -> byTide.bleach(2, 0));
    }

    // ---- promise 5

    private static void recolourWithEveryColour() {
        Check.begin("promise 5, \"the new colour, 'a' to 'd'\", \"Returns the previous colour\"");
        for (char before : Look.COLOURS.toCharArray()) {
            for (char after : Look.COLOURS.toCharArray()) {
                for (int i = 0; i < 4; i++) {
                    Reef reef = Reef.fresh();
                    reef.place(CORNER_ROWS[i], CORNER_COLUMNS[i], before);
                    Check.same("recolour from " + before + " to " + after, before,
                        reef.recolour(CORNER_ROWS[i], CORNER_COLUMNS[i], after));
                    Check.same("colourAt then", after, reef.colourAt(CORNER_ROWS[i], CORNER_COLUMNS[i]));
                    Check.same("placedCount() then", 1, reef.placedCount());
                }
            }
        }
    }

    private static void recolourKeepsTheAge() {
        Check.begin("promise 5, \"Its age stays\"");
        for (int tides = 0; tides <= 10; tides++) {
            Reef reef = Look.reef("aa", "aa");
            if (tides > 0) {
                reef.passTides(tides);
            }
            reef.recolour(1, 1, 'd');
            Check.same("ageAt after " + tides + " tides", Math.min(tides, 9), reef.ageAt(1, 1));
        }
    }

    private static void recolourWithoutSuchACell() {
        Check.begin("promise 5, \"Throws IndexOutOfBoundsException if there is no such cell\"");
        Edges.refusesCells("recolour", (reef, row, column) -> reef.recolour(row, column, 'a'));
    }

    private static void recolourWithoutSuchAColour() {
        Check.begin("promise 5, \"Throws IllegalArgumentException if there is no such colour\"");
        Edges.refusesColours("recolour", (reef, colour) -> reef.recolour(0, 0, colour));
    }

    private static void recolourOfNoButton() {
        Check.begin("promise 5, NO_BUTTON, \"The detail is the number of the cell\"");
        for (int i = 0; i < 4; i++) {
            int corner = i;
            Reef reef = Reef.fresh();
            Edges.rejects("recolour in corner " + i, reef, ButtonReef.NO_BUTTON, CORNER_CELLS[i],
                () -> reef.recolour(CORNER_ROWS[corner], CORNER_COLUMNS[corner], 'a'));
        }
        Reef lived = Edges.lived();
        Edges.rejects("recolour of a removed button", lived, ButtonReef.NO_BUTTON, 25, () -> lived.recolour(3, 1, 'b'));
    }

    private static void recolourOfABleachedButton() {
        Check.begin("promise 5, BLEACHED, \"The detail is the number of bleached buttons\"");
        Reef one = Look.reef("a#");
        Edges.rejects("recolour of the only one", one, ButtonReef.BLEACHED, 1, () -> one.recolour(0, 1, 'a'));
        Reef all = Edges.full('#');
        Edges.rejects("recolour of one of 64", all, ButtonReef.BLEACHED, 64, () -> all.recolour(0, 0, 'd'));
        Reef lived = Edges.lived();
        Edges.rejects("recolour in a reef that has lived", lived, ButtonReef.BLEACHED, lived.bleachedCount(),
            () -> lived.recolour(7, 7, 'd'));
    }

    private static void recolourWhereSeveralExceptionsApply() {
        Check.begin("promise 5, \"the one that is listed first is thrown\"");
        Edges.refusesCells("recolour to no colour", (reef, row, column) -> reef.recolour(row, column, 'e'));
        Edges.refusesColours("recolour of no button", (reef, colour) -> reef.recolour(3, 1, colour));
        Edges.refusesColours("recolour of a bleached button", (reef, colour) -> reef.recolour(7, 7, colour));
    }

    // ---- promise 6

    private static void plantAtTheLastCells() {
        Check.begin("promise 6, the greatest rows and columns");
        Check.same("a square", 4, Reef.fresh().plant(6, 6, 'q', 'a'));
        Check.same("a line", 3, Reef.fresh().plant(7, 5, 'l', 'a'));
        Check.same("a cross", 5, Reef.fresh().plant(5, 5, 'x', 'a'));
        Check.same("a glider", 5, Reef.fresh().plant(5, 5, 'g', 'a'));
    }

    private static void plantWithEveryColour() {
        Check.begin("promise 6, \"the colour, 'a' to 'd'\", \"Returns the number of buttons that are placed\"");
        int[] sizes = {4, 3, 5, 5};
        for (int i = 0; i < 4; i++) {
            for (char colour : Look.COLOURS.toCharArray()) {
                Reef reef = Look.reef("", "", "", "", "", "", "", "......b#");
                Check.same("plant of " + colour, sizes[i], reef.plant(0, 0, "qlxg".charAt(i), colour));
                Check.same("countOf " + colour, sizes[i] + (colour == 'b' ? 1 : 0), reef.countOf(colour));
                Check.same("placedCount()", sizes[i] + 2, reef.placedCount());
            }
        }
    }

    private static void plantWithoutSuchACell() {
        Check.begin("promise 6, \"Throws IndexOutOfBoundsException if there is no such cell\"");
        for (char pattern : "qlxg".toCharArray()) {
            Edges.refusesCells("plant of " + pattern, (reef, row, column) -> reef.plant(row, column, pattern, 'a'));
        }
    }

    private static void plantWithoutSuchAPattern() {
        Check.begin("promise 6, \"Throws IllegalArgumentException if there is no such pattern\"");
        char[] noPatterns = {'p', 'r', 'k', 'm', 'w', 'y', 'f', 'h', 'Q', 'L', 'X', 'G', 'a', 's', ' ', '0', 0, 'q' + 256,
            '\uffff'};
        Edges.refusesSigns("plant", Edges.lived(), noPatterns, (reef, pattern) -> reef.plant(4, 0, pattern, 'a'));
    }

    private static void plantWithoutSuchAColour() {
        Check.begin("promise 6, \"Throws IllegalArgumentException if there is .. no such colour\"");
        for (char pattern : "qlxg".toCharArray()) {
            Edges.refusesColours("plant of " + pattern, (reef, colour) -> reef.plant(4, 0, pattern, colour));
        }
    }

    private static void plantOutside() {
        Check.begin("promise 6, OUTSIDE, \"The detail is the number of cells of the pattern\"");
        Object[][] outside = {{'q', 7, 6, 4}, {'q', 6, 7, 4}, {'q', 7, 7, 4}, {'l', 7, 6, 3}, {'l', 0, 6, 3},
            {'l', 0, 7, 3}, {'x', 6, 5, 5}, {'x', 5, 6, 5}, {'x', 7, 7, 5}, {'g', 6, 5, 5}, {'g', 5, 6, 5},
            {'g', 7, 7, 5}};
        for (Object[] row : outside) {
            Reef reef = Reef.fresh();
            Edges.rejects("plant of " + row[0] + " at " + row[1] + ", " + row[2], reef, ButtonReef.OUTSIDE,
                (Integer) row[3], () -> reef.plant((Integer) row[1], (Integer) row[2], (Character) row[0], 'a'));
        }
        Reef lived = Edges.lived();
        Edges.rejects("plant in a reef that has lived", lived, ButtonReef.OUTSIDE, 3, () -> lived.plant(1, 6, 'l', 'a'));
    }

    private static void plantOnATakenCell() {
        Check.begin("promise 6, OCCUPIED, \"for a pattern of the lowest such cell\"");
        Reef first = Look.reef("a");
        Edges.rejects("the first cell of the grid", first, ButtonReef.OCCUPIED, 0, () -> first.plant(0, 0, 'q', 'a'));
        Reef last = Look.reef("", "", "", "", "", "", "", ".......#");
        Edges.rejects("the last cell of the grid", last, ButtonReef.OCCUPIED, 63, () -> last.plant(6, 6, 'q', 'a'));
        Reef several = Look.reef("..#.", ".a..", "aaaa");
        Edges.rejects("a cross on three buttons", several, ButtonReef.OCCUPIED, 9, () -> several.plant(0, 0, 'x', 'a'));
        Edges.rejects("a glider on three buttons", several, ButtonReef.OCCUPIED, 16, () -> several.plant(0, 0, 'g', 'a'));
        Edges.rejects("a line on three buttons", several, ButtonReef.OCCUPIED, 16, () -> several.plant(2, 0, 'l', 'a'));
        Reef lived = Edges.lived();
        Edges.rejects("plant in a reef that has lived", lived, ButtonReef.OCCUPIED, 0, () -> lived.plant(0, 0, 'l', 'a'));
    }

    private static void plantOutsideAndOnATakenCell() {
        Check.begin("promise 6, \"rejected for the first reason that applies\"");
        Reef reef = Edges.full('a');
        Edges.rejects("a square, taken and outside", reef, ButtonReef.OUTSIDE, 4, () -> reef.plant(7, 7, 'q', 'a'));
        Edges.rejects("a line, taken and outside", reef, ButtonReef.OUTSIDE, 3, () -> reef.plant(0, 6, 'l', 'a'));
        Edges.rejects("a cross, taken and outside", reef, ButtonReef.OUTSIDE, 5, () -> reef.plant(6, 0, 'x', 'a'));
        Edges.rejects("a glider, taken and outside", reef, ButtonReef.OUTSIDE, 5, () -> reef.plant(0, 6, 'g', 'a'));
        Edges.rejects("a square, taken alone", reef, ButtonReef.OCCUPIED, 54, () -> reef.plant(6, 6, 'q', 'a'));
    }

    private static void plantWhereSeveralExceptionsApply() {
        Check.begin("promise 6, \"the one that is listed first is thrown\"");
        Edges.refusesCells("plant of no pattern", (reef, row, column) -> reef.plant(row, column, 'p', 'a'));
        Edges.refusesCells("plant of no colour", (reef, row, column) -> reef.plant(row, column, 'q', 'e'));
        Edges.refusesColours("plant outside", (reef, colour) -> reef.plant(7, 7, 'q', colour));
        Edges.refusesColours("plant on a taken cell", (reef, colour) -> reef.plant(0, 0, 'q', colour));
        char[] noPatterns = {'p', 'r', 'X'};
        Edges.refusesSigns("plant outside", Edges.lived(), noPatterns, (reef, sign) -> reef.plant(7, 7, sign, 'a'));
        Edges.refusesSigns("plant on a taken cell", Edges.lived(), noPatterns, (reef, sign) -> reef.plant(0, 0, sign, 'a'));
    }

    // ---- promise 7

    private static void setRuleReturnsThePreviousOne() {
        Check.begin("promise 7, \"Returns the previous rule\"");
        Reef reef = Reef.fresh();
        char previous = 'c';
        for (char rule : "bcscsbsbcb".toCharArray()) {
            Check.same("setRule(" + rule + ")", previous, reef.setRule(rule));
            Check.same("rule()", rule, reef.rule());
            previous = rule;
        }
    }

    private static void setRuleWithoutSuchARule() {
        Check.begin("promise 7, \"Throws IllegalArgumentException if there is no such rule\"");
        char[] noRules = {'a', 'd', 'r', 't', 'B', 'C', 'S', ' ', '0', 0, 'c' + 256, '\uffff'};
        Edges.refusesSigns("setRule", Edges.lived(), noRules, (reef, rule) -> reef.setRule(rule));
    }

    private static void setRuleToTheSame() {
        Check.begin("promise 7, SAME_RULE, \"The detail is the number of tides that have passed so far\"");
        for (char rule : "cbs".toCharArray()) {
            Reef reef = Look.reef("aa", "aa");
            Edges.useRule(reef, rule);
            Edges.rejects("setRule ahead of all tides", reef, ButtonReef.SAME_RULE, 0, () -> reef.setRule(rule));
            reef.passTides(1);
            Edges.rejects("setRule after one tide", reef, ButtonReef.SAME_RULE, 1, () -> reef.setRule(rule));
            reef.passTides(20);
            reef.passTides(20);
            Edges.rejects("setRule after 41 tides", reef, ButtonReef.SAME_RULE, 41, () -> reef.setRule(rule));
            reef.undo();
            Edges.rejects("setRule after undo", reef, ButtonReef.SAME_RULE, 21, () -> reef.setRule(rule));
        }
        Reef lived = Edges.lived();
        Edges.rejects("setRule in a reef that has lived", lived, ButtonReef.SAME_RULE, 5, () -> lived.setRule('s'));
    }

    // ---- promises 8 to 10

    private static void promises8To10() {
        Check.begin("promises 8 to 10, the least and the greatest row and column");
        Reef reef = Look.reef("a......#", "", "", "", "", "", "", "#......d");
        for (int i = 0; i < 4; i++) {
            boolean lives = i == 0 || i == 3;
            Check.same("isEmpty in corner " + i, false, reef.isEmpty(CORNER_ROWS[i], CORNER_COLUMNS[i]));
            Check.same("isLiving in corner " + i, lives, reef.isLiving(CORNER_ROWS[i], CORNER_COLUMNS[i]));
            Check.same("isBleached in corner " + i, !lives, reef.isBleached(CORNER_ROWS[i], CORNER_COLUMNS[i]));
        }
        Check.same("isEmpty of an empty cell", true, reef.isEmpty(0, 1));
        Check.same("isLiving of an empty cell", false, reef.isLiving(0, 1));
        Check.same("isBleached of an empty cell", false, reef.isBleached(0, 1));
        Check.begin("promises 8 to 10, \"Throws IndexOutOfBoundsException if there is no such cell\"");
        Edges.refusesCells("isEmpty", (r, row, column) -> r.isEmpty(row, column));
        Edges.refusesCells("isLiving", (r, row, column) -> r.isLiving(row, column));
        Edges.refusesCells("isBleached", (r, row, column) -> r.isBleached(row, column));
    }

    // ---- promises 11 and 12

    private static void promises11And12() {
        colourAndAgeInTheCorners();
        Check.begin("promises 11 and 12, \"Throws IndexOutOfBoundsException if there is no such cell\"");
        Edges.refusesCells("colourAt", (reef, row, column) -> reef.colourAt(row, column));
        Edges.refusesCells("ageAt", (reef, row, column) -> reef.ageAt(row, column));
        Check.begin("promises 11 and 12, \"Throws NoSuchElementException if there is no living button in the cell\"");
        Reef lived = Edges.lived();
        Edges.fails("colourAt of an empty cell", Edges.NO_ELEMENT, lived, () -> lived.colourAt(3, 1));
        Edges.fails("colourAt of a bleached button", Edges.NO_ELEMENT, lived, () -> lived.colourAt(7, 7));
        Edges.fails("ageAt of an empty cell", Edges.NO_ELEMENT, lived, () -> lived.ageAt(3, 1));
        Edges.fails("ageAt of a bleached button", Edges.NO_ELEMENT, lived, () -> lived.ageAt(2, 1));
        Reef empty = Reef.fresh();
        Edges.fails("colourAt in an empty reef", Edges.NO_ELEMENT, empty, () -> empty.colourAt(0, 0));
        Edges.fails("ageAt in an empty reef", Edges.NO_ELEMENT, empty, () -> empty.ageAt(7, 7));
    }

    private static void colourAndAgeInTheCorners() {
        Check.begin("promises 11 and 12, the least and the greatest row and column, \"the age, 0 to 9\"");
        Reef reef = Look.reef("aa....bb", "aa....bb", "", "", "", "", "cc....dd", "cc....dd");
        for (int tides = 0; tides <= 10; tides++) {
            for (int i = 0; i < 4; i++) {
                Check.same("colourAt corner " + i, Look.COLOURS.charAt(i),
                    reef.colourAt(CORNER_ROWS[i], CORNER_COLUMNS[i]));
                Check.same("ageAt corner " + i + " after " + tides + " tides", Math.min(tides, 9),
                    reef.ageAt(CORNER_ROWS[i], CORNER_COLUMNS[i]));
            }
            reef.passTides(1);
        }
    }

    // ---- promises 13 to 15

    private static void promises13To15() {
        neighboursFromNoughtToEight();
        neighboursOfFromNoughtToEight();
        neighboursWithoutSuchACell();
        birthColourWithoutLivingNeighbours();
        birthColourOfOneNeighbour();
    }

    private static void neighboursFromNoughtToEight() {
        Check.begin("promise 13, \"the number of the up to 8 neighbours that are living buttons\"");
        for (int cell : new int[] {0, 3, 7, 24, 27, 31, 56, 60, 63}) {
            Reef reef = Reef.fresh();
            int count = 0;
            Check.same("neighbours of " + cell, 0, reef.neighbours(cell / 8, cell % 8));
            for (int other = 0; other < 64; other++) {
                if (Edges.touch(cell, other)) {
                    reef.place(other / 8, other % 8, Edges.colourOf(other));
                    count++;
                }
                Check.same("neighbours of " + cell, count, reef.neighbours(cell / 8, cell % 8));
            }
        }
        Reef bleached = Look.reef("###", "#a#", "###");
        Check.same("neighbours among bleached buttons", 0, bleached.neighbours(1, 1));
    }

    private static void neighboursOfFromNoughtToEight() {
        Check.begin("promise 14, \"the number of living neighbours of a cell that have a colour\"");
        for (char colour : Look.COLOURS.toCharArray()) {
            Reef reef = Look.reef("...", "." + colour + ".", "...");
            for (int count = 0; count < 8; count++) {
                Check.same("neighboursOf " + colour, count, reef.neighboursOf(1, 1, colour));
                int cell = count < 4 ? count : count + 1;
                reef.place(cell / 3, cell % 3, colour);
            }
            Check.same("neighboursOf " + colour, 8, reef.neighboursOf(1, 1, colour));
            reef.bleach(0, 0);
            Check.same("neighboursOf without a bleached one", 7, reef.neighboursOf(1, 1, colour));
            for (char other : Look.COLOURS.toCharArray()) {
                Check.same("neighboursOf " + other + " among " + colour, other == colour ? 7 : 0,
                    reef.neighboursOf(1, 1, other));
            }
        }
    }

    private static void neighboursWithoutSuchACell() {
        Check.begin("promises 13 to 15, \"Throws IndexOutOfBoundsException if there is no such cell\"");
        Edges.refusesCells("neighbours", (reef, row, column) -> reef.neighbours(row, column));
        Edges.refusesCells("neighboursOf", (reef, row, column) -> reef.neighboursOf(row, column, 'a'));
        Edges.refusesCells("birthColour", (reef, row, column) -> reef.birthColour(row, column));
        Check.begin("promise 14, \"Throws IllegalArgumentException if there is no such colour\"");
        Edges.refusesColours("neighboursOf", (reef, colour) -> reef.neighboursOf(0, 0, colour));
        Check.begin("promise 14, \"the one that is listed first is thrown\"");
        Edges.refusesCells("neighboursOf no colour", (reef, row, column) -> reef.neighboursOf(row, column, 'e'));
    }

    private static void birthColourWithoutLivingNeighbours() {
        Check.begin("promise 15, \"Throws NoSuchElementException if the cell has no living neighbours\"");
        Reef empty = Reef.fresh();
        Edges.fails("in an empty reef", Edges.NO_ELEMENT, empty, () -> empty.birthColour(0, 0));
        Reef alone = Look.reef("", ".a");
        Edges.fails("of a lonely button's own cell", Edges.NO_ELEMENT, alone, () -> alone.birthColour(1, 1));
        Reef bleached = Look.reef("###", "#.#", "###");
        Edges.fails("among bleached buttons", Edges.NO_ELEMENT, bleached, () -> bleached.birthColour(1, 1));
        Reef far = Look.reef("a.......", "", "..a", "", "", "", "", "a......a");
        Edges.fails("two cells away", Edges.NO_ELEMENT, far, () -> far.birthColour(0, 2));
        Edges.fails("across the edges", Edges.NO_ELEMENT, far, () -> far.birthColour(0, 7));
        Reef lived = Edges.lived();
        Edges.fails("in a reef that has lived", Edges.NO_ELEMENT, lived, () -> lived.birthColour(0, 3));
    }

    private static void birthColourOfOneNeighbour() {
        Check.begin("promise 15, \"the one that most of its living neighbours have\"");
        for (char colour : Look.COLOURS.toCharArray()) {
            Check.same("one " + colour, colour, Look.reef("" + colour).birthColour(0, 1));
            Check.same("of a living button's cell", colour, Look.reef(colour + "d").birthColour(0, 1));
            Check.same("of a bleached button's cell", colour, Look.reef(colour + "#").birthColour(0, 1));
            Check.same("in the last corner", colour,
                Look.reef("", "", "", "", "", "", "......" + colour).birthColour(7, 7));
        }
    }

    // ---- promises 16 to 18

    private static void promises16To18() {
        Check.begin("promises 16 to 18, from none to all");
        Check.same("livingCount() of none", 0, Reef.fresh().livingCount());
        Check.same("livingCount() of all", 64, Edges.full('c').livingCount());
        Check.same("livingCount() of bleached ones", 0, Edges.full('#').livingCount());
        Check.same("bleachedCount() of none", 0, Reef.fresh().bleachedCount());
        Check.same("bleachedCount() of living ones", 0, Edges.full('c').bleachedCount());
        Check.same("bleachedCount() of all", 64, Edges.full('#').bleachedCount());
        for (char colour : Look.COLOURS.toCharArray()) {
            Reef all = Edges.full(colour);
            for (char other : Look.COLOURS.toCharArray()) {
                Check.same("countOf " + other + " among " + colour, other == colour ? 64 : 0, all.countOf(other));
            }
            Check.same("countOf " + colour + " of none", 0, Reef.fresh().countOf(colour));
            Check.same("countOf " + colour + " of bleached ones", 0, Edges.full('#').countOf(colour));
        }
        Check.begin("promise 18, \"Throws IllegalArgumentException if there is no such colour\"");
        Edges.refusesColours("countOf", (reef, colour) -> reef.countOf(colour));
    }
}
