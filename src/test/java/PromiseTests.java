import java.util.NoSuchElementException;

/** Promises 1 to 43: ordinary inputs, the edges that the document names, and wrong inputs. */
public final class PromiseTests {
    private static final Class<?> NO_INDEX = IndexOutOfBoundsException.class;
    private static final Class<?> BAD_ARGUMENT = IllegalArgumentException.class;
    private static final Class<?> NO_ELEMENT = NoSuchElementException.class;
    private static final Class<?> REJECTED = UnsupportedOperationException.class;
    private static final int[][] NO_CELLS = {{-1, 0}, {0, -1}, {8, 0}, {0, 8}, {8, 8}, {-1, 8}, {1, -8},
        {Integer.MIN_VALUE, 0}, {0, Integer.MAX_VALUE}, {Integer.MAX_VALUE, Integer.MIN_VALUE}};
    private static final char[] NO_COLOURS = {'`', 'e', 'A', 'D', 'z', ' ', '.', '#', '*', 0, 255, '\uffff', '\u0161'};

    private interface CellCall {
        Object run(int row, int column);
    }

    private interface SignCall {
        Object run(char sign);
    }

    private PromiseTests() {
    }

    public static void main(String[] args) {
        promises1To7();
        promises8To18();
        promises19To24();
        promises25To33();
        promises34To43();
        Check.end();
    }

    private static void promises1To7() {
        promise1NewObject();
        promise2Place();
        promise3Remove();
        promise4Bleach();
        promise5Recolour();
        promise6Plant();
        promise6PlantRejected();
        promise7SetRule();
    }

    private static void promises8To18() {
        promises8To10Kinds();
        promises11And12ColourAndAge();
        promises13And14Neighbours();
        promise15BirthColour();
        promises16To18Counts();
    }

    private static void promises19To24() {
        promises19And20Islands();
        promise21IslandSize();
        promise22LargestIsland();
        promise23IslandsOf();
        promise24IsJoined();
    }

    private static void promises25To33() {
        promise25PassTidesAtOnce();
        promise25Births();
        promise25AgesAndWashing();
        promise25WrongNumbers();
        promise26WouldLive();
        promise27LivingAfter();
        promise28IsStill();
        promise29TidesUntilStill();
        promise29Edges();
        promises30To32Rules();
        promise33TideCount();
    }

    private static void promises34To43() {
        promises34To38Totals();
        promise39RowByLiving();
        promise40ColourByCount();
        promise41MeanAge();
        promise42LivingShare();
        promise43IsConsistent();
    }

    // ---- what the promises share

    private static void refusesNoCells(String what, Reef reef, CellCall call) {
        String before = Look.all(reef);
        for (int[] cell : NO_CELLS) {
            Check.fails(what + " at " + cell[0] + ", " + cell[1], NO_INDEX, () -> call.run(cell[0], cell[1]));
        }
        Check.same(what + " without such a cell leaves", before, Look.all(reef));
    }

    private static void refusesNoColours(String what, Reef reef, SignCall call) {
        String before = Look.all(reef);
        for (char colour : NO_COLOURS) {
            Check.fails(what + " with the colour " + (int) colour, BAD_ARGUMENT, () -> call.run(colour));
        }
        Check.same(what + " without such a colour leaves", before, Look.all(reef));
    }

    /** A rejected call changes nothing but the latest rejection, and is no change that can be undone. */
    private static void rejects(String what, Reef reef, int reason, int detail, Check.Call call) {
        String before = Look.lasting(reef) + Look.input(reef);
        Check.fails(what, REJECTED, call);
        Check.same("all after the rejected " + what, before, Look.lasting(reef) + Look.input(reef));
        Check.same("the reason against " + what, reason, reef.rejectionReason());
        Check.same("the detail of the reason against " + what, detail, reef.rejectionDetail());
        Check.fails("the cause of the reason against " + what, NO_ELEMENT, () -> reef.causeReason());
    }

    private static void undoes(String what, Reef reef, String before) {
        reef.undo();
        Check.same("the data after " + what + " has been undone", before, Look.data(reef));
    }

    // ---- changes of cells

    private static void promise1NewObject() {
        Check.begin("promise 1");
        Reef reef = Reef.fresh();
        Check.same("the data", "......../".repeat(8)
            + " rule c tides 0 placed 0 removed 0 born 0 bleachings 0 washed 0", Look.data(reef));
        Check.fails("rejectionReason()", NO_ELEMENT, () -> reef.rejectionReason());
        Check.fails("syntaxErrorOffset()", NO_ELEMENT, () -> reef.syntaxErrorOffset());
        Check.fails("undo()", IllegalStateException.class, () -> reef.undo());
        Check.fails("outputAt(0)", NO_INDEX, () -> reef.outputAt(0));
        Check.same("the length of the input with one more", 1, reef.appendInput('x'));
        Reef other = Reef.fresh();
        reef.place(0, 0, 'a');
        Check.same("another reef", 0, other.livingCount());
    }

    private static void promise2Place() {
        Check.begin("promise 2");
        Reef reef = Reef.fresh();
        Check.same("place(0, 0, a)", 1, reef.place(0, 0, 'a'));
        Check.same("place(7, 7, d)", 2, reef.place(7, 7, 'd'));
        Check.same("place(0, 7, b)", 3, reef.place(0, 7, 'b'));
        Check.same("place(7, 0, c)", 4, reef.place(7, 0, 'c'));
        Check.same("the first row", "a......b", Look.row(reef, 0));
        Check.same("the last row", "c......d", Look.row(reef, 7));
        Check.same("the age", 0, reef.ageAt(7, 7));
        Check.same("the colour", 'd', reef.colourAt(7, 7));
        reef.bleach(7, 7);
        Check.same("place beside a bleached button", 4, reef.place(7, 6, 'a'));
        rejects("place on a living button", reef, ButtonReef.OCCUPIED, 7, () -> reef.place(0, 7, 'b'));
        rejects("place on a bleached button", reef, ButtonReef.OCCUPIED, 63, () -> reef.place(7, 7, 'b'));
        refusesNoCells("place", reef, (row, column) -> reef.place(row, column, 'a'));
        refusesNoCells("place of no colour", reef, (row, column) -> reef.place(row, column, 'e'));
        refusesNoColours("place", reef, colour -> reef.place(3, 3, colour));
        refusesNoColours("place in a taken cell", reef, colour -> reef.place(0, 0, colour));
        String before = Look.data(reef);
        reef.place(4, 4, 'c');
        undoes("place", reef, before);
    }

    private static void promise3Remove() {
        Check.begin("promise 3");
        Reef reef = Look.reef("ab#", "d");
        Check.same("remove(0, 0)", 2, reef.remove(0, 0));
        Check.same("remove of a bleached button", 2, reef.remove(0, 2));
        Check.same("remove(1, 0)", 1, reef.remove(1, 0));
        Check.same("the first row", ".b......", Look.row(reef, 0));
        Check.same("the second row", "........", Look.row(reef, 1));
        Check.same("removedCount()", 3, reef.removedCount());
        rejects("remove of nothing", reef, ButtonReef.NO_BUTTON, 8, () -> reef.remove(1, 0));
        rejects("remove of nothing at the end", reef, ButtonReef.NO_BUTTON, 63, () -> reef.remove(7, 7));
        refusesNoCells("remove", reef, (row, column) -> reef.remove(row, column));
        String before = Look.data(reef);
        reef.remove(0, 1);
        undoes("remove", reef, before);
    }

    private static void promise4Bleach() {
        Check.begin("promise 4");
        Reef reef = Look.reef("aa", "aa");
        Check.same("bleach(0, 0)", 0, reef.bleach(0, 0));
        reef.undo();
        reef.passTides(4);
        Check.same("bleach after 4 tides", 4, reef.bleach(0, 0));
        reef.undo();
        reef.passTides(20);
        Check.same("bleach of the oldest", 9, reef.bleach(0, 0));
        Check.same("isBleached(0, 0)", true, reef.isBleached(0, 0));
        Check.same("isLiving(0, 0)", false, reef.isLiving(0, 0));
        Check.same("bleachings()", 1, reef.bleachings());
        reef.bleach(0, 1);
        rejects("bleach of nothing", reef, ButtonReef.NO_BUTTON, 63, () -> reef.bleach(7, 7));
        rejects("bleach of a bleached button", reef, ButtonReef.BLEACHED, 2, () -> reef.bleach(0, 1));
        refusesNoCells("bleach", reef, (row, column) -> reef.bleach(row, column));
        String before = Look.data(reef);
        reef.bleach(1, 1);
        undoes("bleach", reef, before);
    }

    private static void promise5Recolour() {
        Check.begin("promise 5");
        Reef reef = Look.reef("ab", "cd", "#");
        reef.setRule('s');
        reef.passTides(3);
        Check.same("recolour(1, 1, a)", 'd', reef.recolour(1, 1, 'a'));
        Check.same("the new colour", 'a', reef.colourAt(1, 1));
        Check.same("the age", 3, reef.ageAt(1, 1));
        Check.same("recolour to the same", 'b', reef.recolour(0, 1, 'b'));
        Check.same("recolour once more", 'a', reef.recolour(1, 1, 'c'));
        rejects("recolour of nothing", reef, ButtonReef.NO_BUTTON, 58, () -> reef.recolour(7, 2, 'a'));
        rejects("recolour of a bleached button", reef, ButtonReef.BLEACHED, 1, () -> reef.recolour(2, 0, 'a'));
        refusesNoCells("recolour", reef, (row, column) -> reef.recolour(row, column, 'a'));
        refusesNoCells("recolour with no colour", reef, (row, column) -> reef.recolour(row, column, 'A'));
        refusesNoColours("recolour", reef, colour -> reef.recolour(0, 0, colour));
        refusesNoColours("recolour of nothing", reef, colour -> reef.recolour(7, 7, colour));
        String before = Look.data(reef);
        int undoable = 8;
        reef.recolour(0, 0, 'a');
        Check.same("undo of a recolouring without effect", undoable - 1, reef.undo());
        reef.recolour(0, 0, 'd');
        undoes("recolour", reef, before);
    }

    private static void promise6Plant() {
        Check.begin("promise 6");
        Object[][] patterns = {
            {'q', 4, "cc......", "cc......", "........"},
            {'l', 3, "ccc.....", "........", "........"},
            {'x', 5, ".c......", "ccc.....", ".c......"},
            {'g', 5, ".c......", "..c.....", "ccc....."}};
        for (Object[] pattern : patterns) {
            char letter = (Character) pattern[0];
            Reef reef = Reef.fresh();
            String before = Look.data(reef);
            Check.same("plant(0, 0, " + letter + ", c)", pattern[1], reef.plant(0, 0, letter, 'c'));
            for (int row = 0; row < 3; row++) {
                Check.same("row " + row + " of " + letter, pattern[row + 2], Look.row(reef, row));
            }
            Check.same("placedCount()", pattern[1], reef.placedCount());
            Check.same("livingCount()", pattern[1], reef.livingCount());
            undoes("plant", reef, before);
        }
        Reef reef = Reef.fresh();
        Check.same("a square in the last corner", 4, reef.plant(6, 6, 'q', 'a'));
        Check.same("a line in the last row", 3, reef.plant(7, 3, 'l', 'b'));
        Check.same("a cross at the right side", 5, reef.plant(0, 5, 'x', 'c'));
        Check.same("a glider at the left side", 5, reef.plant(4, 0, 'g', 'd'));
        String[] rows = {"......c.", ".....ccc", "......c.", "........", ".d......", "..d.....", "ddd...aa", "...bbbaa"};
        for (int row = 0; row < 8; row++) {
            Check.same("row " + row, rows[row], Look.row(reef, row));
        }
    }

    private static void promise6PlantRejected() {
        Check.begin("promise 6");
        Reef reef = Look.reef("", ".#.a", "", "....b", "", "", "", ".......b");
        rejects("a square over the last row", reef, ButtonReef.OUTSIDE, 4, () -> reef.plant(7, 0, 'q', 'a'));
        rejects("a square over the last column", reef, ButtonReef.OUTSIDE, 4, () -> reef.plant(0, 7, 'q', 'a'));
        rejects("a line over the last column", reef, ButtonReef.OUTSIDE, 3, () -> reef.plant(0, 6, 'l', 'a'));
        rejects("a cross over the last row", reef, ButtonReef.OUTSIDE, 5, () -> reef.plant(6, 0, 'x', 'a'));
        rejects("a glider over the last column", reef, ButtonReef.OUTSIDE, 5, () -> reef.plant(0, 6, 'g', 'a'));
        rejects("a taken cell and one outside", reef, ButtonReef.OUTSIDE, 4, () -> reef.plant(7, 7, 'q', 'a'));
        rejects("a square on a bleached button", reef, ButtonReef.OCCUPIED, 9, () -> reef.plant(0, 0, 'q', 'a'));
        rejects("a line on two buttons", reef, ButtonReef.OCCUPIED, 9, () -> reef.plant(1, 1, 'l', 'a'));
        rejects("a line on the last cell", reef, ButtonReef.OCCUPIED, 28, () -> reef.plant(3, 2, 'l', 'a'));
        rejects("a glider on its first and last cell", reef, ButtonReef.OCCUPIED, 11, () -> reef.plant(1, 2, 'g', 'a'));
        rejects("a glider on its last cell", reef, ButtonReef.OCCUPIED, 63, () -> reef.plant(5, 5, 'g', 'a'));
        rejects("a cross on its middle", reef, ButtonReef.OCCUPIED, 11, () -> reef.plant(0, 2, 'x', 'a'));
        rejects("a cross on its last cell", reef, ButtonReef.OCCUPIED, 28, () -> reef.plant(1, 3, 'x', 'a'));
        Check.same("a cross between taken corners", 5, reef.plant(1, 1, 'x', 'c'));
        refusesNoCells("plant", reef, (row, column) -> reef.plant(row, column, 'q', 'a'));
        refusesNoCells("plant of no pattern", reef, (row, column) -> reef.plant(row, column, 'z', 'z'));
        refusesNoColours("plant", reef, colour -> reef.plant(4, 4, 'l', colour));
        refusesNoColours("plant outside", reef, colour -> reef.plant(7, 7, 'q', colour));
        refusesNoColours("plant of a pattern", reef, pattern -> reef.plant(0, 0, pattern, 'a'));
        for (char pattern : "Qpryfhwkm".toCharArray()) {
            Check.fails("plant of " + pattern, BAD_ARGUMENT, () -> reef.plant(4, 4, pattern, 'a'));
        }
    }

    private static void promise7SetRule() {
        Check.begin("promise 7");
        Reef reef = Reef.fresh();
        rejects("setRule(c) at first", reef, ButtonReef.SAME_RULE, 0, () -> reef.setRule('c'));
        Check.same("setRule(b)", 'c', reef.setRule('b'));
        reef.passTides(13);
        rejects("setRule(b) again", reef, ButtonReef.SAME_RULE, 13, () -> reef.setRule('b'));
        Check.same("setRule(s)", 'b', reef.setRule('s'));
        Check.same("setRule(c)", 's', reef.setRule('c'));
        Check.same("rule()", 'c', reef.rule());
        String before = Look.all(reef);
        for (char rule : "adCBS q\u00ff".toCharArray()) {
            Check.fails("setRule(" + rule + ")", BAD_ARGUMENT, () -> reef.setRule(rule));
        }
        Check.same("after wrong rules", before, Look.all(reef));
        before = Look.data(reef);
        reef.setRule('b');
        undoes("setRule", reef, before);
    }

    // ---- cells

    private static void promises8To10Kinds() {
        Check.begin("promises 8 to 10");
        Reef reef = Look.reef("a#.");
        for (int column = 0; column < 3; column++) {
            Check.same("isLiving(0, " + column + ")", column == 0, reef.isLiving(0, column));
            Check.same("isBleached(0, " + column + ")", column == 1, reef.isBleached(0, column));
            Check.same("isEmpty(0, " + column + ")", column == 2, reef.isEmpty(0, column));
        }
        refusesNoCells("isEmpty", reef, (row, column) -> reef.isEmpty(row, column));
        refusesNoCells("isLiving", reef, (row, column) -> reef.isLiving(row, column));
        refusesNoCells("isBleached", reef, (row, column) -> reef.isBleached(row, column));
    }

    private static void promises11And12ColourAndAge() {
        Check.begin("promises 11 and 12");
        Reef reef = Look.reef("ab", "dc", "", "#");
        reef.passTides(2);
        Check.same("colourAt(0, 0)", 'a', reef.colourAt(0, 0));
        Check.same("colourAt(1, 0)", 'd', reef.colourAt(1, 0));
        Check.same("ageAt(1, 1)", 2, reef.ageAt(1, 1));
        reef.passTides(6);
        Check.same("ageAt after 8 tides", 8, reef.ageAt(1, 1));
        reef.passTides(1);
        Check.same("ageAt after 9 tides", 9, reef.ageAt(1, 1));
        reef.passTides(1);
        Check.same("ageAt after 10 tides", 9, reef.ageAt(1, 1));
        reef.bleach(0, 0);
        Check.fails("colourAt of a bleached button", NO_ELEMENT, () -> reef.colourAt(0, 0));
        Check.fails("ageAt of a bleached button", NO_ELEMENT, () -> reef.ageAt(0, 0));
        Check.fails("colourAt of nothing", NO_ELEMENT, () -> reef.colourAt(7, 7));
        Check.fails("ageAt of nothing", NO_ELEMENT, () -> reef.ageAt(7, 7));
        reef.remove(0, 0);
        reef.place(0, 0, 'b');
        Check.same("ageAt of a new button", 0, reef.ageAt(0, 0));
        refusesNoCells("colourAt", reef, (row, column) -> reef.colourAt(row, column));
        refusesNoCells("ageAt", reef, (row, column) -> reef.ageAt(row, column));
    }

    private static void promises13And14Neighbours() {
        Check.begin("promises 13 and 14");
        Reef reef = Look.reef("aab", "c#d", "dab", "", "", "", ".......c", "a.....b.");
        Check.same("neighbours of the middle", 8, reef.neighbours(1, 1));
        Check.same("neighbours of a corner", 2, reef.neighbours(0, 0));
        Check.same("neighbours of the last corner", 2, reef.neighbours(7, 7));
        Check.same("neighbours across the side", 0, reef.neighbours(7, 0));
        Check.same("neighbours of a cell below", 3, reef.neighbours(3, 1));
        Check.same("neighbours of a cell right of it", 3, reef.neighbours(1, 3));
        Check.same("neighbours of a living button", 4, reef.neighbours(1, 2));
        int[] due = {3, 2, 1, 2};
        for (int i = 0; i < 4; i++) {
            char colour = Look.COLOURS.charAt(i);
            Check.same("neighboursOf(1, 1, " + colour + ")", due[i], reef.neighboursOf(1, 1, colour));
        }
        Check.same("neighboursOf(0, 0, a), without itself", 1, reef.neighboursOf(0, 0, 'a'));
        Check.same("neighboursOf(7, 7, c)", 1, reef.neighboursOf(7, 7, 'c'));
        refusesNoCells("neighbours", reef, (row, column) -> reef.neighbours(row, column));
        refusesNoCells("neighboursOf", reef, (row, column) -> reef.neighboursOf(row, column, 'a'));
        refusesNoCells("neighboursOf no colour", reef, (row, column) -> reef.neighboursOf(row, column, 'e'));
        refusesNoColours("neighboursOf", reef, colour -> reef.neighboursOf(0, 0, colour));
    }

    private static void promise15BirthColour() {
        Check.begin("promise 15");
        Reef reef = Look.reef("abb", "...", "dc.", "...", "#..a");
        Check.same("most are b", 'b', reef.birthColour(1, 1));
        Check.same("one a and one b", 'b', reef.birthColour(0, 2));
        Check.same("c and d", 'c', reef.birthColour(3, 0));
        Check.same("a, b, c and d", 'a', reef.birthColour(1, 0));
        Check.same("a living button's own colour does not count", 'c', reef.birthColour(2, 0));
        Check.same("of a bleached button's cell", 'a', Look.reef("#a").birthColour(0, 0));
        Check.same("two d, and one each", 'd', Look.reef("abc", "d.d").birthColour(1, 1));
        Check.fails("beside a bleached button", NO_ELEMENT, () -> reef.birthColour(5, 0));
        Check.fails("of a lonely button", NO_ELEMENT, () -> reef.birthColour(4, 3));
        refusesNoCells("birthColour", reef, (row, column) -> reef.birthColour(row, column));
    }

    private static void promises16To18Counts() {
        Check.begin("promises 16 to 18");
        Reef reef = Look.reef("abbd##", "d.d#", "", "", "", "", "", ".......a");
        Check.same("livingCount()", 7, reef.livingCount());
        Check.same("bleachedCount()", 3, reef.bleachedCount());
        int[] due = {2, 2, 0, 3};
        for (int i = 0; i < 4; i++) {
            Check.same("countOf " + i, due[i], reef.countOf(Look.COLOURS.charAt(i)));
        }
        refusesNoColours("countOf", reef, colour -> reef.countOf(colour));
    }

    // ---- islands

    private static void promises19And20Islands() {
        Check.begin("promises 19 and 20");
        Object[][] reefs = {
            {0, "........"},
            {1, "a"},
            {0, "#"},
            {2, "a.", ".a"},
            {2, "a#a"},
            {1, "abc", "..d", "bca"},
            {2, ".......a", "a......."},
            {2, "a......a", "a......."},
            {2, ".......a", "a......a"},
            {1, "aaaaaaaa", "a......a", "a.aaaa.a", "a.a..a.a", "a.aa.a.a", "a....a.a", "aaaaaa.a", ".......a"},
            {2, "a.a.a.a.", "a.a.a.a.", "aaa.aaa.", "", "", "", "", ""},
            {1, "a.a.a.a.", "a.a.a.a.", "aaa.aaa.", "a.....a.", "aaaaaaa.", "", "", ""},
            {32, "a.a.a.a.", ".a.a.a.a", "a.a.a.a.", ".a.a.a.a", "a.a.a.a.", ".a.a.a.a", "a.a.a.a.", ".a.a.a.a"},
            {1, "aaaaaaaa", "bbbbbbbb", "cccccccc", "dddddddd", "aaaaaaaa", "bbbbbbbb", "cccccccc", "dddddddd"}};
        for (int i = 0; i < reefs.length; i++) {
            String[] rows = new String[reefs[i].length - 1];
            System.arraycopy(reefs[i], 1, rows, 0, rows.length);
            Reef reef = Look.reef(rows);
            String before = Look.data(reef);
            Check.same("islandCount() of reef " + i, reefs[i][0], reef.islandCount());
            Check.same("islandCountByMerging() of reef " + i, reefs[i][0], reef.islandCountByMerging());
            Check.same("islandCount() of reef " + i + " once more", reefs[i][0], reef.islandCount());
            Check.same("islandCount() of reef " + i + " a third time", reefs[i][0], reef.islandCount());
            Check.same("the data", before, Look.data(reef));
        }
    }

    private static void promise21IslandSize() {
        Check.begin("promise 21");
        Reef reef = Look.reef("ab.d", ".c.d", "#.ad");
        Check.same("islandSize(0, 0)", 3, reef.islandSize(0, 0));
        Check.same("islandSize(1, 1)", 3, reef.islandSize(1, 1));
        Check.same("islandSize(0, 3)", 4, reef.islandSize(0, 3));
        Check.same("islandSize(2, 2)", 4, reef.islandSize(2, 2));
        Check.fails("islandSize of a bleached button", NO_ELEMENT, () -> reef.islandSize(2, 0));
        Check.fails("islandSize of nothing", NO_ELEMENT, () -> reef.islandSize(0, 2));
        refusesNoCells("islandSize", reef, (row, column) -> reef.islandSize(row, column));
    }

    private static void promise22LargestIsland() {
        Check.begin("promise 22");
        Check.same("without islands", 0, Reef.fresh().largestIsland());
        Check.same("with a bleached button", 0, Look.reef("#").largestIsland());
        Check.same("with the largest first", 3, Look.reef("aaa.bb").largestIsland());
        Check.same("with the largest last", 3, Look.reef("aa.b.bcd").largestIsland());
        Check.same("with two of a size", 2, Look.reef("aa.cd", "..b").largestIsland());
    }

    private static void promise23IslandsOf() {
        Check.begin("promise 23");
        Reef reef = Look.reef("aba", "abc", "aaa", "", "c.c#");
        int[] due = {2, 1, 3, 0};
        for (int i = 0; i < 4; i++) {
            Check.same("islandsOf " + i, due[i], reef.islandsOf(Look.COLOURS.charAt(i)));
        }
        Check.same("islands of a in two", 2, Look.reef("aba").islandsOf('a'));
        refusesNoColours("islandsOf", reef, colour -> reef.islandsOf(colour));
    }

    private static void promise24IsJoined() {
        Check.begin("promise 24");
        Reef reef = Look.reef("ab.d", ".c.d", "#.a.", "", "", "", "", ".......b");
        Check.same("two of one island", true, reef.isJoined(0, 0, 1, 1));
        Check.same("the same in turn", true, reef.isJoined(1, 1, 0, 0));
        Check.same("a cell with itself", true, reef.isJoined(7, 7, 7, 7));
        Check.same("two islands", false, reef.isJoined(0, 0, 0, 3));
        Check.same("two that touch at a corner", false, reef.isJoined(1, 1, 2, 2));
        Check.same("with an empty cell", false, reef.isJoined(0, 1, 0, 2));
        Check.same("with a bleached button", false, reef.isJoined(2, 0, 0, 0));
        Check.same("two bleached buttons", false, reef.isJoined(2, 0, 2, 0));
        Check.same("two empty cells", false, reef.isJoined(6, 6, 6, 6));
        refusesNoCells("isJoined", reef, (row, column) -> reef.isJoined(row, column, 0, 0));
        refusesNoCells("isJoined", reef, (row, column) -> reef.isJoined(0, 0, row, column));
        refusesNoCells("isJoined of empty cells", reef, (row, column) -> reef.isJoined(7, 0, row, column));
    }

    // ---- tides

    private static void promise25PassTidesAtOnce() {
        Check.begin("promise 25");
        Reef reef = Look.reef("", "", "..bbb");
        String before = Look.data(reef);
        Check.same("passTides(1)", 2, reef.passTides(1));
        Check.same("row 1", "...b....", Look.row(reef, 1));
        Check.same("row 2", "..#b#...", Look.row(reef, 2));
        Check.same("row 3", "...b....", Look.row(reef, 3));
        Check.same("the age of the one that survived", 1, reef.ageAt(2, 3));
        Check.same("the age of one that was born", 0, reef.ageAt(1, 3));
        Check.same("bornCount()", 2, reef.bornCount());
        Check.same("bleachings()", 2, reef.bleachings());
        undoes("passTides", reef, before);
        Check.same("passTides(2)", reef.passTides(2), Look.reef("", "", "..bbb").passTides(2));
        reef.undo();
        int one = reef.passTides(1);
        int two = reef.passTides(1);
        String stepwise = Look.data(reef);
        reef.undo();
        reef.undo();
        Check.same("the births of two tides", one + two, reef.passTides(2));
        Check.same("the data after two tides", stepwise, Look.data(reef));
        undoes("two tides at once", reef, before);
    }

    private static void promise25Births() {
        Check.begin("promise 25");
        Reef reef = Look.reef("db", "c");
        Check.same("a birth with 3", 1, reef.passTides(1));
        Check.same("the first of several colours", 'b', reef.colourAt(1, 1));
        reef = Look.reef("da", "d");
        reef.passTides(1);
        Check.same("the colour of most", 'd', reef.colourAt(1, 1));
        String[] six = {"aaa", "...", "bbb"};
        reef = Look.reef(six);
        reef.passTides(1);
        Check.same("no birth with 6 by calm", true, reef.isEmpty(1, 1));
        reef = Look.reef(six);
        reef.setRule('b');
        reef.passTides(1);
        Check.same("a birth with 6 by busy", 'a', reef.colourAt(1, 1));
        reef = Look.reef(six);
        reef.setRule('s');
        reef.passTides(1);
        Check.same("no birth with 6 by slow", true, reef.isEmpty(1, 1));
        reef = Look.reef("aa", "a#");
        Check.same("no birth on a bleached button", 0, reef.passTides(3));
        Check.same("it stays", true, reef.isBleached(1, 1));
        reef = Look.reef("aa", ".#", "#");
        Check.same("no birth with bleached neighbours", 0, reef.passTides(1));
    }

    private static void promise25AgesAndWashing() {
        Check.begin("promise 25");
        Reef reef = Look.reef("#.aa", "..aa", "", "", "", "", "", "a......#");
        reef.passTides(1);
        Check.same("a lonely bleached button is washed away", true, reef.isEmpty(0, 0));
        Check.same("a lonely living button is bleached", true, reef.isBleached(7, 0));
        Check.same("another is washed away", true, reef.isEmpty(7, 7));
        Check.same("washedCount()", 2, reef.washedCount());
        reef.passTides(1);
        Check.same("washedCount() after another tide", 3, reef.washedCount());
        Check.same("it is empty", true, reef.isEmpty(7, 0));
        reef.passTides(20);
        Check.same("the age", 9, reef.ageAt(0, 2));
        Check.same("row 0", "..AA....", Look.row(reef, 0));
        reef = Look.reef("#b");
        reef.passTides(1);
        Check.same("a neighbour ahead of the tide keeps it", "##......", Look.row(reef, 0));
        reef.passTides(1);
        Check.same("both go at once", "........", Look.row(reef, 0));
        int[][] survivals = {{2, 3}, {2, 3}, {1, 2, 3, 4, 5}};
        for (int rule = 0; rule < 3; rule++) {
            for (int living = 0; living <= 8; living++) {
                Reef trial = ringOf(living);
                if (rule > 0) {
                    trial.setRule("cbs".charAt(rule));
                }
                trial.passTides(1);
                boolean due = false;
                for (int number : survivals[rule]) {
                    due |= number == living;
                }
                Check.same("rule " + rule + " with " + living, due, trial.isLiving(3, 3));
                Check.same("bleached " + rule + " with " + living, !due, trial.isBleached(3, 3));
            }
        }
    }

    /** A living button in (3, 3) with a number of living neighbours. */
    private static Reef ringOf(int living) {
        Reef reef = Reef.fresh();
        reef.place(3, 3, 'a');
        for (int i = 0; i < living; i++) {
            int cell = i < 4 ? i : i + 1;
            reef.place(2 + cell / 3, 2 + cell % 3, 'b');
        }
        return reef;
    }

    private static void promise25WrongNumbers() {
        Check.begin("promise 25");
        Reef reef = Look.reef("aa", "aa");
        String before = Look.all(reef);
        for (int tides : new int[] {0, -1, 21, 100, Integer.MIN_VALUE, Integer.MAX_VALUE}) {
            Check.fails("passTides(" + tides + ")", BAD_ARGUMENT, () -> reef.passTides(tides));
        }
        Check.same("after wrong numbers", before, Look.all(reef));
        Check.same("passTides(20)", 0, reef.passTides(20));
        Check.same("tideCount()", 20, reef.tideCount());
        Check.same("undo of tides without effect", 4, reef.undo());
    }

    private static void promise26WouldLive() {
        Check.begin("promise 26");
        String[] rows = {"bb#", "b#.", "..d", "", "....aaa", "....a.a", "....aaa"};
        for (char rule : "cbs".toCharArray()) {
            for (int cell = 0; cell < 64; cell++) {
                Reef reef = Look.reef(rows);
                if (reef.rule() != rule) {
                    reef.setRule(rule);
                }
                boolean would = reef.wouldLive(cell / 8, cell % 8);
                reef.passTides(1);
                Check.same("wouldLive " + rule + cell, reef.isLiving(cell / 8, cell % 8), would);
            }
        }
        Reef reef = Look.reef(rows);
        String before = Look.all(reef);
        reef.wouldLive(0, 0);
        Check.same("wouldLive leaves", before, Look.all(reef));
        Check.same("a birth", true, Look.reef("aa", "a.").wouldLive(1, 1));
        Check.same("no birth", false, Look.reef("aa", "..").wouldLive(1, 1));
        Check.same("no life for a bleached button", false, Look.reef("aa", "a#").wouldLive(1, 1));
        Check.same("a survival", true, Look.reef("aa", "a.").wouldLive(0, 0));
        Check.same("no survival", false, Look.reef("aa").wouldLive(0, 0));
        refusesNoCells("wouldLive", reef, (row, column) -> reef.wouldLive(row, column));
    }

    private static void promise27LivingAfter() {
        Check.begin("promise 27");
        Reef reef = Look.reef("", ".b", "..b", "bbb", "#....ca", "....ac", "....b");
        String before = Look.all(reef);
        Check.same("livingAfter(0)", reef.livingCount(), reef.livingAfter(0));
        for (int tides = 1; tides <= 20; tides++) {
            int forecast = reef.livingAfter(tides);
            Reef twin = reef.twin();
            twin.passTides(tides);
            Check.same("livingAfter(" + tides + ")", twin.livingCount(), forecast);
        }
        Check.same("livingAfter leaves all", before, Look.all(reef));
        for (int tides : new int[] {-1, 21, Integer.MIN_VALUE, Integer.MAX_VALUE}) {
            Check.fails("livingAfter(" + tides + ")", BAD_ARGUMENT, () -> reef.livingAfter(tides));
        }
        Check.same("after wrong numbers", before, Look.all(reef));
    }

    private static void promise28IsStill() {
        Check.begin("promise 28");
        Check.same("an empty reef", true, Reef.fresh().isStill());
        Check.same("a square, though it ages", true, Look.reef("aa", "aa").isStill());
        Check.same("a bleached button beside a square", true, Look.reef("aa#", "aa").isStill());
        Check.same("a birth alone", false, Look.reef("aa", "a.").isStill());
        Check.same("a bleaching alone", false, Look.reef("a").isStill());
        Check.same("a washing alone", false, Look.reef("#").isStill());
        Reef reef = Look.reef("", "", "", "", "", "", "......aa", "......a#");
        Check.same("three round a bleached button in the last corner", true, reef.isStill());
        reef.remove(7, 7);
        Check.same("and round an empty cell there", false, reef.isStill());
        Reef pair = Look.reef("aa");
        Check.same("a pair by calm", false, pair.isStill());
        pair.setRule('s');
        Check.same("a pair by slow", true, pair.isStill());
    }

    private static void promise29TidesUntilStill() {
        Check.begin("promise 29");
        Check.same("of an empty reef", 0, Reef.fresh().tidesUntilStill());
        Check.same("of a square", 0, Look.reef("aa", "aa").tidesUntilStill());
        Check.same("of three in a corner", 1, Look.reef("aa", "a").tidesUntilStill());
        Check.same("of one bleached button", 1, Look.reef("#").tidesUntilStill());
        Check.same("of one living button", 2, Look.reef("a").tidesUntilStill());
        for (String rows : new String[] {"bbb,.b", ".a.,..a,aaa", "ab.c,b..c,abcd,..a", "....,.aaaaa.,.a.b.a"}) {
            Reef reef = Look.reef(rows.split(","));
            String before = Look.data(reef);
            Object forecast = Check.outcome(() -> reef.tidesUntilStill());
            Check.same("the data", before, Look.data(reef));
            int passed = 0;
            while (passed <= 40 && !reef.isStill()) {
                reef.passTides(1);
                passed++;
            }
            Check.same("of " + rows, passed <= 40 ? passed : "throws " + NO_ELEMENT.getName(), forecast);
        }
    }

    /** Reefs that a search has found, as bits of living and of bleached buttons, with the tides that they take. */
    private static void promise29Edges() {
        Check.begin("promise 29");
        comesToRest('c', 0x1fd1a8d6a5a5a566L, 0x4000060008080a01L, 40);
        comesToRest('b', 0x2c960105c691a04eL, 0x5329561221200391L, 40);
        comesToRest('s', 0x1003470a80100309L, 0xa0b438704a69c8d2L, 40);
        comesToRest('c', 0x498bca8a8a88bf41L, 0xb6603030600040b8L, 41);
        comesToRest('b', 0x11cc338080cb0214L, 0x2a30084e14101d60L, 41);
        comesToRest('s', 0x4004a2088c010bL, 0xa310a00cb0114af0L, 41);
        comesToRest('c', 0xcf8921c302836a1dL, 0x3000483879281080L, 49);
    }

    private static void comesToRest(char rule, long living, long bleached, int due) {
        Reef reef = Reef.fresh();
        if (rule != 'c') {
            reef.setRule(rule);
        }
        for (int cell = 0; cell < 64; cell++) {
            if (((living | bleached) >>> cell & 1) == 1) {
                reef.place(cell / 8, cell % 8, Look.COLOURS.charAt(cell % 4));
            }
            if ((bleached >>> cell & 1) == 1) {
                reef.bleach(cell / 8, cell % 8);
            }
        }
        for (int passed = 0; passed < due; passed++) {
            Object forecast = Check.outcome(() -> reef.tidesUntilStill());
            Object left = due - passed <= 40 ? due - passed : "throws " + NO_ELEMENT.getName();
            Check.same(rule + " after " + passed + " of " + due + " tides", left, forecast);
            Check.same(rule + " isStill() after " + passed + " of " + due + " tides", false, reef.isStill());
            reef.passTides(1);
        }
        Check.same(rule + " at rest", 0, reef.tidesUntilStill());
    }

    private static void promises30To32Rules() {
        Check.begin("promises 30 to 32");
        Reef reef = Reef.fresh();
        String[][] due = {{"c", "3", "23"}, {"b", "36", "23"}, {"s", "3", "12345"}};
        for (String[] rule : due) {
            if (reef.rule() != rule[0].charAt(0)) {
                reef.setRule(rule[0].charAt(0));
            }
            Check.same("rule()", rule[0].charAt(0), reef.rule());
            for (int n = 0; n <= 8; n++) {
                String digit = String.valueOf(n);
                Check.same(rule[0] + " isBirth(" + n + ")", rule[1].contains(digit), reef.isBirth(n));
                Check.same(rule[0] + " isSurvival(" + n + ")", rule[2].contains(digit), reef.isSurvival(n));
            }
            for (int n : new int[] {-1, 9, 32, 35, -29, Integer.MIN_VALUE, Integer.MAX_VALUE}) {
                Check.fails("isBirth(" + n + ")", BAD_ARGUMENT, () -> reef.isBirth(n));
                Check.fails("isSurvival(" + n + ")", BAD_ARGUMENT, () -> reef.isSurvival(n));
            }
        }
    }

    private static void promise33TideCount() {
        Check.begin("promise 33");
        Reef reef = Look.reef("ab");
        reef.passTides(1);
        reef.passTides(20);
        Check.same("tideCount()", 21, reef.tideCount());
        reef.livingAfter(5);
        Check.outcome(() -> reef.tidesUntilStill());
        Check.same("tideCount() after forecasts", 21, reef.tideCount());
        Look.run(reef, "tide 4;tide 03");
        Check.same("tideCount() after commands", 28, reef.tideCount());
        reef.undo();
        Check.same("tideCount() after undo", 21, reef.tideCount());
    }

    // ---- totals and orders

    private static void promises34To38Totals() {
        Check.begin("promises 34 to 38");
        Reef reef = Reef.fresh();
        reef.place(0, 0, 'a');
        reef.plant(0, 3, 'l', 'b');
        reef.plant(4, 4, 'x', 'c');
        Check.same("placedCount()", 9, reef.placedCount());
        Check.same("bornCount() before tides", 0, reef.bornCount());
        reef.remove(0, 0);
        reef.bleach(4, 5);
        reef.remove(4, 5);
        Check.same("removedCount()", 2, reef.removedCount());
        Check.same("placedCount() after removals", 9, reef.placedCount());
        Check.same("bleachings() by bleach", 1, reef.bleachings());
        Check.same("washedCount() after removals", 0, reef.washedCount());
        int born = reef.passTides(1);
        Check.same("bornCount()", born, reef.bornCount());
        Check.same("placedCount() after births", 9, reef.placedCount());
        int living = reef.livingCount();
        int bleached = reef.bleachedCount();
        Check.same("bleachings() by tides", bleached + 1, reef.bleachings());
        Check.same("the balance", 9 + born - 2, living + bleached);
        Look.run(reef, "place 77 a;remove 77;plant 73 ld;bleach 73");
        Check.same("placedCount() after commands", 13, reef.placedCount());
        Check.same("removedCount() after commands", 3, reef.removedCount());
        Check.same("bleachings() after commands", bleached + 2, reef.bleachings());
        Reef washed = Look.reef("#.#.#");
        washed.passTides(2);
        Check.same("washedCount()", 3, washed.washedCount());
        Check.same("removedCount() after washing", 0, washed.removedCount());
        washed.undo();
        Check.same("washedCount() after undo", 0, washed.washedCount());
    }

    private static void promise39RowByLiving() {
        Check.begin("promise 39");
        Reef reef = Look.reef("a", "ab", "a#", "", "##", "cd", "a##", "#");
        int[] due = {1, 5, 6, 2, 0, 4, 7, 3};
        for (int position = 0; position < 8; position++) {
            Check.same("rowByLiving(" + position + ")", due[position], reef.rowByLiving(position));
        }
        for (int position = 0; position < 8; position++) {
            Check.same("rowByLiving of an empty reef", position, Reef.fresh().rowByLiving(position));
        }
        for (int position : new int[] {-1, 8, Integer.MIN_VALUE, Integer.MAX_VALUE}) {
            Check.fails("rowByLiving(" + position + ")", NO_ELEMENT, () -> reef.rowByLiving(position));
        }
    }

    private static void promise40ColourByCount() {
        Check.begin("promise 40");
        String[][] due = {{"", "abcd"}, {"d", "dabc"}, {"dbdb", "bdac"}, {"abcdbdd", "dbac"}, {"ccba", "cabd"},
            {"a####", "abcd"}};
        for (String[] row : due) {
            Reef reef = Look.reef(row[0]);
            for (int position = 0; position < 4; position++) {
                Check.same(row[0] + " at " + position, row[1].charAt(position), reef.colourByCount(position));
            }
            for (int position : new int[] {-1, 4, Integer.MIN_VALUE, Integer.MAX_VALUE}) {
                Check.fails("colourByCount(" + position + ")", NO_ELEMENT, () -> reef.colourByCount(position));
            }
        }
    }

    private static void promise41MeanAge() {
        Check.begin("promise 41");
        Check.fails("meanAge() of an empty reef", ArithmeticException.class, () -> Reef.fresh().meanAge());
        Reef reef = Look.reef("aa", "aa");
        Check.same("meanAge() of new buttons", 0.0, reef.meanAge());
        reef.passTides(5);
        Check.same("meanAge() after 5 tides", 5.0, reef.meanAge());
        reef.place(7, 7, 'b');
        reef.place(7, 0, 'b');
        Check.same("meanAge() of six", 20.0 / 6.0, reef.meanAge());
        reef.remove(7, 0);
        Check.same("meanAge() of five", 4.0, reef.meanAge());
        reef.bleach(0, 0);
        Check.same("meanAge() without a bleached one", 15.0 / 4.0, reef.meanAge());
        Check.fails("meanAge() of bleached ones", ArithmeticException.class, () -> Look.reef("##").meanAge());
    }

    private static void promise42LivingShare() {
        Check.begin("promise 42");
        Check.fails("livingShare() of nothing", ArithmeticException.class, () -> Reef.fresh().livingShare());
        Check.same("livingShare() of bleached ones", 0.0f, Look.reef("##").livingShare());
        Check.same("livingShare() of living ones", 1.0f, Look.reef("abc").livingShare());
        Check.same("livingShare() of two of three", 2.0f / 3.0f, Look.reef("a#c").livingShare());
        Check.same("livingShare() of one of seven", 1.0f / 7.0f, Look.reef("###a###").livingShare());
    }

    private static void promise43IsConsistent() {
        Check.begin("promise 43");
        Reef reef = Reef.fresh();
        Check.same("isConsistent() at first", true, reef.isConsistent());
        reef.plant(0, 0, 'g', 'a');
        reef.plant(4, 4, 'x', 'd');
        reef.bleach(0, 1);
        reef.remove(5, 5);
        for (int i = 0; i < 10; i++) {
            Check.same("isConsistent()", true, reef.isConsistent());
            reef.passTides(i + 1);
        }
        reef.undo();
        Check.same("isConsistent() after undo", true, reef.isConsistent());
        String before = Look.all(reef);
        reef.isConsistent();
        Check.same("the data", before, Look.all(reef));
    }
}
