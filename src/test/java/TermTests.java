import java.util.ArrayList;
import java.util.List;

/** What the document says under "Terms" of the grid, of islands, rules, tides and patterns, sentence by sentence. */
public final class TermTests {
    private static final String[] BIRTHS = {"3", "36", "3"};
    private static final String[] SURVIVALS = {"23", "23", "12345"};

    private TermTests() {
    }

    public static void main(String[] args) {
        grid();
        islands();
        rules();
        tides();
        patterns();
        Check.end();
    }

    private static void grid() {
        eightRowsAndEightColumns();
        noWrapAroundOfNeighbours();
        noWrapAroundOfBirths();
        noWrapAroundOfSurvivals();
        noWrapAroundOfWashing();
        noWrapAroundOfIslands();
        noWrapAroundOfPatterns();
        oneOfThreeKinds();
        allCellsAreEmptyAtFirst();
        aCellIsNotItsOwnNeighbour();
    }

    private static void islands() {
        sideBySideWithACommonSide();
        connectedByAChain();
        chainsRoundACorner();
        coloursDoNotMatterForIslands();
        bleachedButtonsAreInNoIsland();
    }

    private static void rules() {
        everyNumberOfNeighboursInEveryCell();
        calmAtFirst();
    }

    private static void tides() {
        allCellsChangeAtOnce();
        aBornButtonHasAgeNoughtAndTheColourOfMost();
        theFirstOfSeveralColours();
        agesIncreaseUpToNine();
        otherwiseItBecomesBleached();
        bleachedNeighboursDoNotCount();
        noBirthInABleachedCell();
        washedByWhatIsThereAheadOfTheTide();
    }

    private static void patterns() {
        everyPatternAtEveryCell();
        otherCellsOfAPatternMayBeTaken();
    }

    // ---- grid

    private static void eightRowsAndEightColumns() {
        Check.begin("\"The reef has 8 rows and 8 columns, numbered from 0\"");
        Reef reef = Reef.fresh();
        for (int cell = 0; cell < 64; cell++) {
            Check.same("place in cell " + cell, cell + 1, reef.place(cell / 8, cell % 8, Edges.colourOf(cell)));
        }
        for (int cell = 0; cell < 64; cell++) {
            Check.same("the colour in cell " + cell, Edges.colourOf(cell), reef.colourAt(cell / 8, cell % 8));
        }
        Check.same("row 0", "abcdabcd", Look.row(reef, 0));
        Check.same("row 7", "dabcdabc", Look.row(reef, 7));
        Edges.fails("row -1", Edges.NO_INDEX, reef, () -> reef.isEmpty(-1, 0));
        Edges.fails("row 8", Edges.NO_INDEX, reef, () -> reef.isEmpty(8, 0));
        Edges.fails("column -1", Edges.NO_INDEX, reef, () -> reef.isEmpty(0, -1));
        Edges.fails("column 8", Edges.NO_INDEX, reef, () -> reef.isEmpty(0, 8));
    }

    private static void noWrapAroundOfNeighbours() {
        Check.begin("\"the grid does not wrap around\", neighbours");
        for (int cell = 0; cell < 64; cell++) {
            Reef reef = Reef.fresh();
            reef.place(cell / 8, cell % 8, 'c');
            for (int other = 0; other < 64; other++) {
                int row = other / 8;
                int column = other % 8;
                int due = Edges.touch(cell, other) ? 1 : 0;
                Check.same("neighbours of " + other + " with " + cell, due, reef.neighbours(row, column));
                Check.same("neighboursOf " + other + " with " + cell, due, reef.neighboursOf(row, column, 'c'));
                Check.same("neighboursOf another colour", 0, reef.neighboursOf(row, column, 'b'));
                Check.same("birthColour of " + other + " with " + cell,
                    due == 1 ? 'c' : "throws java.util.NoSuchElementException",
                    Check.outcome(() -> reef.birthColour(row, column)));
            }
        }
    }

    /** The cells that would be neighbours if the grid wrapped around, or if cells counted by their numbers alone. */
    private static List<Integer> falseNeighbours(int cell) {
        List<Integer> found = new ArrayList<>();
        for (int other = 0; other < 64; other++) {
            int down = Math.floorMod(other / 8 - cell / 8 + 1, 8);
            int right = Math.floorMod(other % 8 - cell % 8 + 1, 8);
            int apart = Math.abs(other - cell);
            boolean wraps = down <= 2 && right <= 2;
            boolean isNearByNumber = apart == 1 || apart >= 7 && apart <= 9;
            if (other != cell && !Edges.touch(cell, other) && (wraps || isNearByNumber)) {
                found.add(other);
            }
        }
        return found;
    }

    private static Reef withLiving(List<Integer> cells) {
        Reef reef = Reef.fresh();
        for (int cell : cells) {
            reef.place(cell / 8, cell % 8, 'a');
        }
        return reef;
    }

    private static void noWrapAroundOfBirths() {
        Check.begin("\"the grid does not wrap around\", births");
        for (int cell = 0; cell < 64; cell++) {
            List<Integer> others = falseNeighbours(cell);
            for (int first = 0; first + 3 <= others.size(); first++) {
                Reef reef = withLiving(others.subList(first, first + 3));
                Check.same("wouldLive in " + cell, false, reef.wouldLive(cell / 8, cell % 8));
                reef.passTides(1);
                Check.same("no birth in " + cell, true, reef.isEmpty(cell / 8, cell % 8));
            }
        }
    }

    private static void noWrapAroundOfSurvivals() {
        Check.begin("\"the grid does not wrap around\", survivals");
        for (int cell = 0; cell < 64; cell++) {
            List<Integer> others = falseNeighbours(cell);
            for (int first = 0; first + 2 <= others.size(); first++) {
                Reef reef = withLiving(others.subList(first, first + 2));
                reef.place(cell / 8, cell % 8, 'b');
                Check.same("wouldLive in " + cell, false, reef.wouldLive(cell / 8, cell % 8));
                reef.passTides(1);
                Check.same("no survival in " + cell, true, reef.isBleached(cell / 8, cell % 8));
            }
        }
    }

    private static void noWrapAroundOfWashing() {
        Check.begin("\"the grid does not wrap around\", washing");
        for (int cell = 0; cell < 64; cell++) {
            for (int other : falseNeighbours(cell)) {
                Reef reef = withLiving(List.of(cell, other));
                reef.bleach(cell / 8, cell % 8);
                reef.passTides(1);
                Check.same(cell + " is washed away beside " + other, true, reef.isEmpty(cell / 8, cell % 8));
            }
        }
    }

    private static void noWrapAroundOfIslands() {
        Check.begin("\"the grid does not wrap around\", islands");
        for (int i = 0; i < 8; i++) {
            areTwoIslands(i, 7, i, 0);
            areTwoIslands(7, i, 0, i);
            areTwoIslands(i, 7, (i + 1) % 8, 0);
        }
        Reef rim = Look.reef("aaaaaaaa", "", "", "", "", "", "", "aaaaaaaa");
        Check.same("the first and the last row", 2, rim.islandCount());
        Check.same("the first and the last row, merged", 2, rim.islandCountByMerging());
        Check.same("the first and the last row, of a colour", 2, rim.islandsOf('a'));
        Check.same("the size of the first row", 8, rim.islandSize(0, 0));
        Reef sides = Look.reef("a......a", "a......a", "a......a", "a......a", "a......a", "a......a", "a......a", "a......a");
        Check.same("the first and the last column", 2, sides.islandCount());
        Check.same("the first and the last column, merged", 2, sides.islandCountByMerging());
        Check.same("the first and the last column, of a colour", 2, sides.islandsOf('a'));
        Check.same("the size of the last column", 8, sides.islandSize(0, 7));
        Check.same("the largest of both", 8, sides.largestIsland());
        Check.same("the first column and the last", false, sides.isJoined(1, 0, 0, 7));
    }

    private static void areTwoIslands(int row, int column, int otherRow, int otherColumn) {
        Reef reef = Reef.fresh();
        reef.place(row, column, 'd');
        reef.place(otherRow, otherColumn, 'd');
        String what = row + ", " + column + " and " + otherRow + ", " + otherColumn;
        Check.same("islandCount of " + what, 2, reef.islandCount());
        Check.same("islandCountByMerging of " + what, 2, reef.islandCountByMerging());
        Check.same("islandsOf of " + what, 2, reef.islandsOf('d'));
        Check.same("isJoined of " + what, false, reef.isJoined(row, column, otherRow, otherColumn));
        Check.same("islandSize of " + what, 1, reef.islandSize(row, column));
        Check.same("largestIsland of " + what, 1, reef.largestIsland());
    }

    private static void noWrapAroundOfPatterns() {
        Check.begin("\"the grid does not wrap around\", patterns");
        Reef reef = Reef.fresh();
        Edges.rejects("a line from column 6", reef, ButtonReef.OUTSIDE, 3, () -> reef.plant(0, 6, 'l', 'a'));
        Edges.rejects("a square from column 7", reef, ButtonReef.OUTSIDE, 4, () -> reef.plant(0, 7, 'q', 'a'));
        Edges.rejects("a square from row 7", reef, ButtonReef.OUTSIDE, 4, () -> reef.plant(7, 0, 'q', 'a'));
    }

    private static void oneOfThreeKinds() {
        Check.begin("\"A cell is empty, or has a living or a bleached button\"");
        Reef reef = Look.reef("a#.", "", "", "", "", "", "", ".......#");
        for (int cell = 0; cell < 64; cell++) {
            int kinds = (reef.isEmpty(cell / 8, cell % 8) ? 1 : 0) + (reef.isLiving(cell / 8, cell % 8) ? 1 : 0)
                + (reef.isBleached(cell / 8, cell % 8) ? 1 : 0);
            Check.same("the kinds of cell " + cell, 1, kinds);
        }
    }

    private static void allCellsAreEmptyAtFirst() {
        Check.begin("\"All cells are empty at first\"");
        Reef reef = Reef.fresh();
        for (int cell = 0; cell < 64; cell++) {
            Check.same("isEmpty of cell " + cell, true, reef.isEmpty(cell / 8, cell % 8));
        }
    }

    private static void aCellIsNotItsOwnNeighbour() {
        Check.begin("\"The neighbours of a cell are the cells that touch it at a side or at a corner\"");
        Reef reef = Edges.full('b');
        for (int cell = 0; cell < 64; cell++) {
            int rows = cell / 8 == 0 || cell / 8 == 7 ? 2 : 3;
            int columns = cell % 8 == 0 || cell % 8 == 7 ? 2 : 3;
            Check.same("of a full reef, cell " + cell, rows * columns - 1, reef.neighbours(cell / 8, cell % 8));
            Check.same("of a colour, cell " + cell, rows * columns - 1, reef.neighboursOf(cell / 8, cell % 8, 'b'));
        }
    }

    // ---- islands

    private static void sideBySideWithACommonSide() {
        Check.begin("\"Two living buttons are side by side if their cells have a common side\"");
        for (int cell = 0; cell < 64; cell++) {
            for (int other = cell + 1; other < 64; other++) {
                int apart = Math.abs(cell / 8 - other / 8) + Math.abs(cell % 8 - other % 8);
                Reef reef = withLiving(List.of(cell, other));
                String what = cell + " and " + other;
                Check.same("islandCount of " + what, apart == 1 ? 1 : 2, reef.islandCount());
                Check.same("islandCountByMerging of " + what, apart == 1 ? 1 : 2, reef.islandCountByMerging());
                Check.same("isJoined of " + what, apart == 1, reef.isJoined(cell / 8, cell % 8, other / 8, other % 8));
                Check.same("islandSize of " + what, apart == 1 ? 2 : 1, reef.islandSize(other / 8, other % 8));
                Check.same("islandsOf of " + what, apart == 1 ? 1 : 2, reef.islandsOf('a'));
            }
        }
    }

    private static void connectedByAChain() {
        Check.begin("\"every two are connected by a chain of buttons that are side by side\"");
        String[] snake = {"aaaaaaaa", ".......a", "aaaaaaaa", "a.......", "aaaaaaaa", ".......a", "aaaaaaaa", "a......."};
        Reef reef = Look.reef(snake);
        Check.same("islandCount of a snake", 1, reef.islandCount());
        Check.same("islandCountByMerging of a snake", 1, reef.islandCountByMerging());
        Check.same("islandSize of its tail", 36, reef.islandSize(7, 0));
        Check.same("its head and its tail", true, reef.isJoined(0, 0, 7, 0));
        reef.remove(3, 0);
        Check.same("islandCount of a snake in two", 2, reef.islandCount());
        Check.same("islandCountByMerging of a snake in two", 2, reef.islandCountByMerging());
        Check.same("the head and the tail of two", false, reef.isJoined(0, 0, 7, 0));
        Check.same("islandSize of the first part", 17, reef.islandSize(0, 0));
        Check.same("islandSize of the second part", 18, reef.islandSize(7, 0));
        Reef comb = Look.reef("a.a.a.a.", "a.a.a.a.", "a.a.a.a.", "a.a.a.a.", "a.a.a.a.", "a.a.a.a.", "a.a.a.a.",
            "aaaaaaa.");
        Check.same("islandCount of a comb", 1, comb.islandCount());
        Check.same("islandCountByMerging of a comb", 1, comb.islandCountByMerging());
        Check.same("two of its teeth", true, comb.isJoined(0, 0, 0, 6));
    }

    /** An island that comes round to a button which it touches at a corner alone, turned and mirrored. */
    private static void chainsRoundACorner() {
        Check.begin("\"every two are connected by a chain of buttons that are side by side\", not at a corner");
        int[][] hook = {{0, 2}, {1, 2}, {2, 2}, {2, 1}};
        int[] alone = {1, 0};
        for (int turn = 0; turn < 8; turn++) {
            for (int start : new int[] {0, 5, 26, 40, 45}) {
                Reef reef = Reef.fresh();
                for (int[] cell : hook) {
                    reef.place(start / 8 + turned(cell, turn)[0], start % 8 + turned(cell, turn)[1], 'a');
                }
                int row = start / 8 + turned(alone, turn)[0];
                int column = start % 8 + turned(alone, turn)[1];
                int hookRow = start / 8 + turned(hook[0], turn)[0];
                int hookColumn = start % 8 + turned(hook[0], turn)[1];
                reef.place(row, column, 'a');
                String what = " of turn " + turn + " at " + start;
                Check.same("islandCount" + what, 2, reef.islandCount());
                Check.same("islandCountByMerging" + what, 2, reef.islandCountByMerging());
                Check.same("islandsOf" + what, 2, reef.islandsOf('a'));
                Check.same("islandSize of the one alone" + what, 1, reef.islandSize(row, column));
                Check.same("islandSize of the hook" + what, 4, reef.islandSize(hookRow, hookColumn));
                Check.same("largestIsland" + what, 4, reef.largestIsland());
                Check.same("isJoined" + what, false, reef.isJoined(row, column, hookRow, hookColumn));
            }
        }
    }

    /** One of the eight ways in which three rows of three cells can be turned and mirrored. */
    private static int[] turned(int[] cell, int turn) {
        int row = turn % 2 == 0 ? cell[0] : 2 - cell[0];
        int column = turn / 2 % 2 == 0 ? cell[1] : 2 - cell[1];
        return turn < 4 ? new int[] {row, column} : new int[] {column, row};
    }

    private static void coloursDoNotMatterForIslands() {
        Check.begin("\"Colours do not matter for islands, except where this is stated\"");
        Reef reef = Look.reef("abcd");
        Check.same("islandCount", 1, reef.islandCount());
        Check.same("islandCountByMerging", 1, reef.islandCountByMerging());
        Check.same("islandSize", 4, reef.islandSize(0, 3));
        Check.same("largestIsland", 4, reef.largestIsland());
        Check.same("isJoined", true, reef.isJoined(0, 0, 0, 3));
        Reef stated = Look.reef("aba", "bab", "aba");
        Check.same("islandsOf(a)", 5, stated.islandsOf('a'));
        Check.same("islandsOf(b)", 4, stated.islandsOf('b'));
        Check.same("islandCount of both", 1, stated.islandCount());
    }

    private static void bleachedButtonsAreInNoIsland() {
        Check.begin("\"An island is a greatest set of living buttons\"");
        Reef reef = Look.reef("a#a", "#.#");
        Check.same("islandCount", 2, reef.islandCount());
        Check.same("islandCountByMerging", 2, reef.islandCountByMerging());
        Check.same("isJoined over a bleached button", false, reef.isJoined(0, 0, 0, 2));
        Check.same("isJoined with a bleached button", false, reef.isJoined(0, 0, 0, 1));
        Check.same("largestIsland", 1, reef.largestIsland());
        Check.same("islandCount of bleached buttons", 0, Edges.full('#').islandCount());
        Check.same("islandCountByMerging of bleached buttons", 0, Edges.full('#').islandCountByMerging());
    }

    // ---- rules

    private static void everyNumberOfNeighboursInEveryCell() {
        Check.begin("\"with which numbers of living neighbours a button is born, and with which it survives\"");
        for (int rule = 0; rule < 3; rule++) {
            for (int cell = 0; cell < 64; cell++) {
                List<Integer> around = new ArrayList<>();
                passATide(rule, cell, around);
                for (int other = 0; other < 64; other++) {
                    if (Edges.touch(cell, other)) {
                        around.add(other);
                        passATide(rule, cell, around);
                    }
                }
            }
        }
    }

    private static void passATide(int rule, int cell, List<Integer> around) {
        String number = String.valueOf(around.size());
        String what = "cbs".charAt(rule) + " with " + number + " round " + cell;
        boolean isBorn = BIRTHS[rule].contains(number);
        boolean survives = SURVIVALS[rule].contains(number);
        int row = cell / 8;
        int column = cell % 8;

        Reef empty = withLiving(around);
        Edges.useRule(empty, "cbs".charAt(rule));
        Check.same("wouldLive, empty, " + what, isBorn, empty.wouldLive(row, column));
        empty.passTides(1);
        Check.same("isLiving, empty, " + what, isBorn, empty.isLiving(row, column));
        Check.same("isEmpty, empty, " + what, !isBorn, empty.isEmpty(row, column));

        Reef living = withLiving(around);
        Edges.useRule(living, "cbs".charAt(rule));
        living.place(row, column, 'd');
        Check.same("wouldLive, living, " + what, survives, living.wouldLive(row, column));
        living.passTides(1);
        Check.same("isLiving, living, " + what, survives, living.isLiving(row, column));
        Check.same("isBleached, living, " + what, !survives, living.isBleached(row, column));

        Reef bleached = withLiving(around);
        Edges.useRule(bleached, "cbs".charAt(rule));
        bleached.place(row, column, 'd');
        bleached.bleach(row, column);
        Check.same("wouldLive, bleached, " + what, false, bleached.wouldLive(row, column));
        bleached.passTides(1);
        Check.same("isEmpty, bleached, " + what, around.isEmpty(), bleached.isEmpty(row, column));
        Check.same("isBleached, bleached, " + what, !around.isEmpty(), bleached.isBleached(row, column));
    }

    private static void calmAtFirst() {
        Check.begin("\"The rule is calm at first\"");
        Check.same("rule()", 'c', Reef.fresh().rule());
        Reef reef = Look.reef("aaa", "...", "aaa");
        Check.same("no birth with 6", false, reef.wouldLive(1, 1));
        Check.same("no survival with 1", false, reef.wouldLive(0, 0));
    }

    // ---- tides

    private static void allCellsChangeAtOnce() {
        Check.begin("\"all cells change at once, by what is in the cells and among their neighbours ahead of the tide\"");
        Reef reef = Look.reef("", "..a", "..b", "..c");
        reef.passTides(1);
        Check.same("an upright line", "......../..#...../.aba..../..#...../......../......../......../........",
            Look.rows(reef));
        reef.passTides(1);
        Check.same("after another tide", "......../..#...../.#b#..../..#...../......../......../......../........",
            Look.rows(reef));
        reef.passTides(1);
        Check.same("after a third", "......../..#...../.###..../..#...../......../......../......../........",
            Look.rows(reef));
        reef.passTides(1);
        Check.same("after a fourth", "......../......../......../......../......../......../......../........",
            Look.rows(reef));
        Reef row = Look.reef("aaaaaaaa");
        row.passTides(1);
        Check.same("a full row", "#aaaaaa#/.aaaaaa.", Look.rows(row).substring(0, 17));
    }

    private static void aBornButtonHasAgeNoughtAndTheColourOfMost() {
        Check.begin("\"it has the colour that most of the living neighbours have\"");
        for (int i = 0; i < 64; i++) {
            String colours = "" + Look.COLOURS.charAt(i / 16) + Look.COLOURS.charAt(i / 4 % 4) + Look.COLOURS.charAt(i % 4);
            birth(colours, 'c');
        }
        Reef reef = Look.reef("aa", "a.");
        reef.passTides(1);
        Check.same("the age of a born button", 0, reef.ageAt(1, 1));
        Check.same("the age of its elders", 1, reef.ageAt(0, 0));
        reef.passTides(1);
        Check.same("its age after a tide", 1, reef.ageAt(1, 1));
    }

    private static void theFirstOfSeveralColours() {
        Check.begin("\"of several such colours the first one in the alphabet\"");
        for (String colours : new String[] {"ddccbb", "bbccdd", "ddaccc", "dddccc", "cccddd", "dddddc", "abcdab", "aabbcd",
            "cdcdab", "ddcbba", "dcdcba", "bcdbcd", "dcbdcb", "aaabbb", "bbbaaa", "abbbba", "ddddaa", "ddcccb"}) {
            birth(colours, 'b');
        }
    }

    /** Neighbours of these colours round the middle of a corner of 3 by 3 cells. */
    private static void birth(String colours, char rule) {
        Reef reef = Reef.fresh();
        for (int i = 0; i < colours.length(); i++) {
            int cell = i < 4 ? i : i + 1;
            reef.place(cell / 3, cell % 3, colours.charAt(i));
        }
        Edges.useRule(reef, rule);
        char due = firstOfMost(colours);
        Check.same("birthColour among " + colours, due, reef.birthColour(1, 1));
        reef.passTides(1);
        Check.same("the colour that is born among " + colours, due, reef.colourAt(1, 1));
    }

    private static char firstOfMost(String colours) {
        char best = 'a';
        for (char colour = 'b'; colour <= 'd'; colour++) {
            if (howMany(colours, colour) > howMany(colours, best)) {
                best = colour;
            }
        }
        return best;
    }

    private static int howMany(String colours, char colour) {
        return colours.length() - colours.replace(String.valueOf(colour), "").length();
    }

    private static void agesIncreaseUpToNine() {
        Check.begin("\"its age increases by 1 up to 9\"");
        Reef reef = Look.reef("aa", "aa");
        for (int tides = 1; tides <= 12; tides++) {
            reef.passTides(1);
            Check.same("the age after " + tides + " tides", Math.min(tides, 9), reef.ageAt(0, 0));
            Check.same("the mean age after " + tides + " tides", (double) Math.min(tides, 9), reef.meanAge());
        }
        Reef atOnce = Look.reef("aa", "aa");
        atOnce.passTides(20);
        Check.same("the age after 20 tides at once", 9, atOnce.ageAt(1, 1));
    }

    private static void otherwiseItBecomesBleached() {
        Check.begin("\"otherwise it becomes a bleached button\"");
        Reef reef = Look.reef("a");
        reef.passTides(1);
        Check.same("after one tide", "#.......", Look.row(reef, 0));
        Check.same("bleachedCount()", 1, reef.bleachedCount());
        Check.same("washedCount(), not in the same tide", 0, reef.washedCount());
        reef.passTides(1);
        Check.same("after two tides", "........", Look.row(reef, 0));
        Check.same("washedCount()", 1, reef.washedCount());
    }

    private static void bleachedNeighboursDoNotCount() {
        Check.begin("\"numbers of living neighbours\"");
        Reef reef = Look.reef("aa#", "..#", "###");
        Check.same("neighbours(1, 1)", 2, reef.neighbours(1, 1));
        Check.same("no birth", 0, reef.passTides(1));
        Reef pair = Look.reef("a#", "##");
        pair.passTides(1);
        Check.same("no survival among bleached buttons", true, pair.isBleached(0, 0));
        Reef washed = Look.reef("##", "##");
        washed.passTides(1);
        Check.same("bleached neighbours do not keep a bleached button", 4, washed.washedCount());
    }

    private static void noBirthInABleachedCell() {
        Check.begin("\"other bleached buttons stay\"");
        Reef reef = Look.reef("aa", "a#");
        for (int tides = 1; tides <= 3; tides++) {
            Check.same("births", 0, reef.passTides(1));
            Check.same("it stays", true, reef.isBleached(1, 1));
        }
        Reef filled = Look.reef("aa", "a.");
        filled.passTides(1);
        Check.same("an empty cell there is filled", true, filled.isLiving(1, 1));
    }

    private static void washedByWhatIsThereAheadOfTheTide() {
        Check.begin("\"A bleached button without living neighbours is washed away\"");
        Reef dies = Look.reef("#a");
        dies.passTides(1);
        Check.same("a neighbour that is bleached in this tide keeps it", "##......", Look.row(dies, 0));
        Check.same("washedCount()", 0, dies.washedCount());
        Reef born = Look.reef("...#", "", "..aaa");
        born.passTides(1);
        Check.same("a neighbour that is born in this tide does not", "......../...a..../..#a#...",
            Look.rows(born).substring(0, 26));
        Check.same("washedCount()", 1, born.washedCount());
        Reef room = Look.reef("aa.", "..#");
        Check.same("no birth beside it", 0, room.passTides(1));
        Reef emptied = Look.reef("#", "", "aaa");
        emptied.passTides(1);
        Check.same("the emptied cell is empty", true, emptied.isEmpty(0, 0));
    }

    // ---- patterns

    private static final int[][] SQUARE = {{0, 0}, {0, 1}, {1, 0}, {1, 1}};
    private static final int[][] LINE = {{0, 0}, {0, 1}, {0, 2}};
    private static final int[][] CROSS = {{0, 1}, {1, 0}, {1, 1}, {1, 2}, {2, 1}};
    private static final int[][] GLIDER = {{0, 1}, {1, 2}, {2, 0}, {2, 1}, {2, 2}};

    private static void everyPatternAtEveryCell() {
        Check.begin("\"The cells of a pattern are given by their rows and columns as distances from the first cell\"");
        for (int cell = 0; cell < 64; cell++) {
            plant('q', SQUARE, 6, 6, cell / 8, cell % 8);
            plant('l', LINE, 7, 5, cell / 8, cell % 8);
            plant('x', CROSS, 5, 5, cell / 8, cell % 8);
            plant('g', GLIDER, 5, 5, cell / 8, cell % 8);
        }
    }

    /** In an empty reef, and then with each of its cells taken by a button, and with each and all later ones. */
    private static void plant(char pattern, int[][] shape, int lastRow, int lastColumn, int row, int column) {
        Reef reef = Reef.fresh();
        String what = pattern + " at " + row + ", " + column;
        if (row > lastRow || column > lastColumn) {
            Edges.rejects(what, reef, ButtonReef.OUTSIDE, shape.length, () -> reef.plant(row, column, pattern, 'c'));
            return;
        }
        Check.same(what, shape.length, reef.plant(row, column, pattern, 'c'));
        Check.same("the living buttons of " + what, shape.length, reef.livingCount());
        for (int i = 0; i < shape.length; i++) {
            Check.same("cell " + i + " of " + what, 'c', reef.colourAt(row + shape[i][0], column + shape[i][1]));
            Check.same("the age in it", 0, reef.ageAt(row + shape[i][0], column + shape[i][1]));
            Reef taken = Reef.fresh();
            taken.place(row + shape[i][0], column + shape[i][1], 'a');
            int lowest = 8 * (row + shape[i][0]) + column + shape[i][1];
            Edges.rejects(what + " on cell " + i, taken, ButtonReef.OCCUPIED, lowest,
                () -> taken.plant(row, column, pattern, 'c'));
            for (int later = i + 1; later < shape.length; later++) {
                taken.place(row + shape[later][0], column + shape[later][1], 'b');
            }
            taken.bleach(row + shape[i][0], column + shape[i][1]);
            Edges.rejects(what + " on cell " + i + " and later ones", taken, ButtonReef.OCCUPIED, lowest,
                () -> taken.plant(row, column, pattern, 'c'));
        }
    }

    private static void otherCellsOfAPatternMayBeTaken() {
        Check.begin("\"A cross has 5 cells\", \"A glider has 5 cells\"");
        Check.same("a cross among taken cells", 5, Look.reef("a.a", "...", "a.a").plant(0, 0, 'x', 'b'));
        Check.same("a glider among taken cells", 5, Look.reef("a.a", "aa.", "...").plant(0, 0, 'g', 'b'));
        Check.same("a line above and below taken cells", 3, Look.reef("aaa", "...a", "aaa").plant(1, 0, 'l', 'b'));
        Check.same("a square among taken cells", 4, Look.reef("..a", "..a", "aaa").plant(0, 0, 'q', 'b'));
    }
}
