/** Promises 19 to 33: each boundary case that a sentence of them names. */
public final class TideEdgeTests {
    private static final int[] CORNER_ROWS = {0, 0, 7, 7};
    private static final int[] CORNER_COLUMNS = {0, 7, 0, 7};
    private static final String[] CHESS = {"a.a.a.a.", ".a.a.a.a", "a.a.a.a.", ".a.a.a.a", "a.a.a.a.", ".a.a.a.a", "a.a.a.a.",
        ".a.a.a.a"};

    private TideEdgeTests() {
    }

    public static void main(String[] args) {
        promises19And20();
        promise21();
        promise22();
        promise23();
        promise24();
        promise25();
        promise26();
        promise27();
        promise28();
        promise29();
        promises30To32();
        promise33();
        Check.end();
    }

    private static void promise21() {
        islandSizeFromOneToAll();
        islandSizeWithoutSuchACell();
        islandSizeWithoutALivingButton();
    }

    private static void promise24() {
        isJoinedInTheCorners();
        isJoinedWithoutALivingButton();
        isJoinedWithoutSuchACell();
    }

    private static void promise25() {
        passTidesOutOfRange();
        passTheLeastAndTheGreatestNumber();
        passTidesReturnsTheBirths();
        passTidesOverAnEmptyReef();
    }

    private static void promise27() {
        livingAfterNoTide();
        livingAfterOutOfRange();
        livingAfterTheGreatestNumber();
    }

    private static void promise28() {
        stillWithoutABirth();
        stillWithoutABleaching();
        stillWithoutAWashing();
        stillThoughAgesChange();
    }

    private static void promise29() {
        stillNow();
        stillAfterOneTide();
        stillAfter40And41Tides();
        stillAfter49Tides();
    }

    // ---- promises 19 to 24

    private static void promises19And20() {
        Check.begin("promises 19 and 20, from none to the most");
        count(0, Reef.fresh());
        count(1, Look.reef("", "", "", "", "", "", "", ".......a"));
        count(32, Look.reef(CHESS));
        count(1, Edges.full('a'));
        count(0, Edges.full('#'));
        Reef chess = Look.reef(CHESS);
        chess.place(3, 4, 'd');
        count(29, chess);
        chess.bleach(3, 4);
        count(32, chess);
        Reef ring = Look.reef("aaaaaaaa", "a......a", "a.aaaa.a", "a.a..a.a", "a.a..a.a", "a.aaaa.a", "a......a", "aaaaaaaa");
        count(2, ring);
        ring.place(1, 3, 'b');
        count(1, ring);
        ring.remove(1, 3);
        count(2, ring);
    }

    private static void count(int due, Reef reef) {
        Check.same("islandCount()", due, reef.islandCount());
        Check.same("islandCountByMerging()", due, reef.islandCountByMerging());
        Check.same("islandCountByMerging() once more", due, reef.islandCountByMerging());
        Check.same("islandCount() once more", due, reef.islandCount());
        Edges.leaves("islandCount()", reef, reef::islandCount);
        Edges.leaves("islandCountByMerging()", reef, reef::islandCountByMerging);
    }

    private static void islandSizeFromOneToAll() {
        Check.begin("promise 21, the number of buttons, from 1 to 64");
        for (int i = 0; i < 4; i++) {
            Reef reef = Reef.fresh();
            reef.place(CORNER_ROWS[i], CORNER_COLUMNS[i], 'b');
            Check.same("of a lonely button in corner " + i, 1, reef.islandSize(CORNER_ROWS[i], CORNER_COLUMNS[i]));
            Check.same("of a full reef, corner " + i, 64, Edges.full('b').islandSize(CORNER_ROWS[i], CORNER_COLUMNS[i]));
        }
        Reef reef = Look.reef("aab.", "...b", "dd#b");
        Check.same("of the first of two islands", 3, reef.islandSize(0, 1));
        Check.same("of a neighbour at a corner alone", 2, reef.islandSize(1, 3));
        Check.same("of two beside a bleached button", 2, reef.islandSize(2, 0));
    }

    private static void islandSizeWithoutSuchACell() {
        Check.begin("promise 21, \"Throws IndexOutOfBoundsException if there is no such cell\"");
        Edges.refusesCells("islandSize", (reef, row, column) -> reef.islandSize(row, column));
    }

    private static void islandSizeWithoutALivingButton() {
        Check.begin("promise 21, \"Throws NoSuchElementException if there is no living button in the cell\"");
        Reef lived = Edges.lived();
        Edges.fails("of an empty cell", Edges.NO_ELEMENT, lived, () -> lived.islandSize(3, 1));
        Edges.fails("of a bleached button", Edges.NO_ELEMENT, lived, () -> lived.islandSize(7, 7));
        Reef empty = Reef.fresh();
        Edges.fails("in an empty reef", Edges.NO_ELEMENT, empty, () -> empty.islandSize(0, 0));
    }

    private static void promise22() {
        Check.begin("promise 22, \"the number of buttons, 0 without islands\"");
        Check.same("of an empty reef", 0, Reef.fresh().largestIsland());
        Check.same("of bleached buttons", 0, Edges.full('#').largestIsland());
        Check.same("of one button in the first cell", 1, Look.reef("a").largestIsland());
        Check.same("of one button in the last cell", 1, Look.reef("", "", "", "", "", "", "", ".......d").largestIsland());
        Check.same("of single buttons", 1, Look.reef(CHESS).largestIsland());
        Check.same("of a full reef", 64, Edges.full('d').largestIsland());
        Check.same("the largest in the middle", 4, Look.reef("aa.a", "...bb", "aa..c").largestIsland());
        Check.same("the largest at the end", 5, Look.reef("aaa.", "", "...bb", "....ccd").largestIsland());
        Edges.leaves("largestIsland()", Edges.lived(), () -> Edges.lived().largestIsland());
    }

    private static void promise23() {
        Check.begin("promise 23, \"if only living buttons of a colour were counted\"");
        for (char colour : Look.COLOURS.toCharArray()) {
            Check.same("of an empty reef", 0, Reef.fresh().islandsOf(colour));
            Check.same("of bleached buttons", 0, Edges.full('#').islandsOf(colour));
            Check.same("of a full reef of " + colour, 1, Edges.full(colour).islandsOf(colour));
            Check.same("of chess", colour == 'a' ? 32 : 0, Look.reef(CHESS).islandsOf(colour));
        }
        Reef reef = Look.reef("abab", "aab#", "ddbb");
        int[] due = {2, 3, 0, 1};
        for (int i = 0; i < 4; i++) {
            Check.same("islandsOf " + i, due[i], reef.islandsOf(Look.COLOURS.charAt(i)));
        }
        Check.begin("promise 23, \"Throws IllegalArgumentException if there is no such colour\"");
        Edges.refusesColours("islandsOf", (lived, colour) -> lived.islandsOf(colour));
    }

    private static void isJoinedInTheCorners() {
        Check.begin("promise 24, the least and the greatest row and column");
        Reef full = Edges.full('a');
        Reef apart = Look.reef("a......a", "", "", "", "", "", "", "a......a");
        for (int i = 0; i < 4; i++) {
            for (int j = 0; j < 4; j++) {
                Check.same("corners " + i + " and " + j + " of a full reef", true,
                    full.isJoined(CORNER_ROWS[i], CORNER_COLUMNS[i], CORNER_ROWS[j], CORNER_COLUMNS[j]));
                Check.same("corners " + i + " and " + j + " apart", i == j,
                    apart.isJoined(CORNER_ROWS[i], CORNER_COLUMNS[i], CORNER_ROWS[j], CORNER_COLUMNS[j]));
            }
        }
    }

    private static void isJoinedWithoutALivingButton() {
        Check.begin("promise 24, \"false if there is no living button in one of them\"");
        Reef reef = Look.reef("a#.", "a#.");
        Check.same("living and bleached", false, reef.isJoined(0, 0, 0, 1));
        Check.same("bleached and living", false, reef.isJoined(0, 1, 0, 0));
        Check.same("living and empty", false, reef.isJoined(0, 0, 0, 2));
        Check.same("empty and living", false, reef.isJoined(0, 2, 0, 0));
        Check.same("bleached and bleached", false, reef.isJoined(0, 1, 1, 1));
        Check.same("empty and empty", false, reef.isJoined(0, 2, 1, 2));
        Check.same("a bleached one with itself", false, reef.isJoined(0, 1, 0, 1));
        Check.same("an empty cell with itself", false, reef.isJoined(7, 7, 7, 7));
        Check.same("a living one with itself", true, reef.isJoined(1, 0, 1, 0));
        Check.same("in an empty reef", false, Reef.fresh().isJoined(0, 0, 0, 0));
    }

    private static void isJoinedWithoutSuchACell() {
        Check.begin("promise 24, \"Throws IndexOutOfBoundsException if there is no such cell, for either pair\"");
        Edges.refusesCells("the first pair", (reef, row, column) -> reef.isJoined(row, column, 0, 0));
        Edges.refusesCells("the second pair", (reef, row, column) -> reef.isJoined(0, 0, row, column));
        Edges.refusesCells("the second pair, the first is empty", (reef, row, column) -> reef.isJoined(3, 1, row, column));
        Edges.refusesCells("both pairs", (reef, row, column) -> reef.isJoined(row, column, row, column));
    }

    // ---- promises 25 to 27

    private static void passTidesOutOfRange() {
        Check.begin("promise 25, \"Throws IllegalArgumentException if tides is out of range\"");
        Edges.refusesNumbers("passTides", Edges.BAD_ARGUMENT, 1, 20, (reef, tides) -> reef.passTides(tides));
    }

    private static void passTheLeastAndTheGreatestNumber() {
        Check.begin("promise 25, \"the number of tides, 1 to 20\"");
        String[] rows = {"a.b#..c", ".ab..dd", "bb...d.", "..ca", "...cc#..", "a......a", "aa....aa"};
        for (char rule : "cbs".toCharArray()) {
            Reef steps = Look.reef(rows);
            Edges.useRule(steps, rule);
            Reef start = steps.twin();
            int born = 0;
            for (int tides = 1; tides <= 20; tides++) {
                born += steps.passTides(1);
                Reef atOnce = start.twin();
                Check.same("the births of " + tides + " tides", born, atOnce.passTides(tides));
                Check.same("the data after " + tides + " tides", Look.data(steps), Look.data(atOnce));
                Check.same("tideCount()", tides, atOnce.tideCount());
                atOnce.undo();
                Check.same("the data after undo", Look.data(start), Look.data(atOnce));
            }
        }
    }

    private static void passTidesReturnsTheBirths() {
        Check.begin("promise 25, \"Returns the number of buttons that are born in these tides\"");
        Reef reef = Look.reef("aa", "a.", "", "", "", ".....a", ".....a", ".....a");
        Check.same("of one tide", 3, reef.passTides(1));
        Check.same("of another tide", 0, reef.passTides(1));
        Check.same("bornCount()", 3, reef.bornCount());
        Check.same("of tides without a birth", 0, reef.passTides(20));
    }

    private static void passTidesOverAnEmptyReef() {
        Check.begin("promise 25, an empty reef");
        Reef reef = Reef.fresh();
        Check.same("passTides(1)", 0, reef.passTides(1));
        Check.same("passTides(20)", 0, reef.passTides(20));
        Check.same("tideCount()", 21, reef.tideCount());
        Check.same("livingCount()", 0, reef.livingCount());
        Check.same("undo() of a tide that changed no cell", 1, reef.undo());
        Check.same("tideCount() after undo", 1, reef.tideCount());
    }

    private static void promise26() {
        Check.begin("promise 26, the least and the greatest row and column");
        Reef still = Look.reef("aa....aa", "a......a", "", "", "", "", "a......a", "aa....aa");
        for (int i = 0; i < 4; i++) {
            int inner = CORNER_ROWS[i] == 0 ? 1 : 6;
            int innerColumn = CORNER_COLUMNS[i] == 0 ? 1 : 6;
            Check.same("a survival in corner " + i, true, still.wouldLive(CORNER_ROWS[i], CORNER_COLUMNS[i]));
            Check.same("a birth beside corner " + i, true, still.wouldLive(inner, innerColumn));
            Check.same("no birth two cells away", false, still.wouldLive(inner, innerColumn == 1 ? 2 : 5));
        }
        Edges.leaves("wouldLive", still, () -> still.wouldLive(1, 1));
        Reef alone = Look.reef("a#");
        Check.same("of a lonely button", false, alone.wouldLive(0, 0));
        Check.same("of a bleached button", false, alone.wouldLive(0, 1));
        Check.same("of an empty cell", false, alone.wouldLive(7, 7));
        Check.begin("promise 26, \"Throws IndexOutOfBoundsException if there is no such cell\"");
        Edges.refusesCells("wouldLive", (reef, row, column) -> reef.wouldLive(row, column));
    }

    private static void livingAfterNoTide() {
        Check.begin("promise 27, 0 tides");
        Check.same("of an empty reef", 0, Reef.fresh().livingAfter(0));
        Check.same("of a full reef", 64, Edges.full('a').livingAfter(0));
        Check.same("of a lonely button", 1, Look.reef("a#").livingAfter(0));
        Check.same("of a lonely button after a tide", 0, Look.reef("a#").livingAfter(1));
    }

    private static void livingAfterOutOfRange() {
        Check.begin("promise 27, \"Throws IllegalArgumentException if tides is out of range\"");
        Edges.refusesNumbers("livingAfter", Edges.BAD_ARGUMENT, 0, 20, (reef, tides) -> reef.livingAfter(tides));
    }

    private static void livingAfterTheGreatestNumber() {
        Check.begin("promise 27, \"the number of tides, 0 to 20\"");
        for (char rule : "cbs".toCharArray()) {
            Reef reef = Look.reef("a.b#..c", ".ab..dd", "bb...d.", "..ca", "...cc#..", "a......a", "aa....aa");
            Edges.useRule(reef, rule);
            for (int tides = 0; tides <= 20; tides++) {
                Reef twin = reef.twin();
                if (tides > 0) {
                    twin.passTides(tides);
                }
                Check.same("livingAfter(" + tides + ") by " + rule, twin.livingCount(), reef.livingAfter(tides));
            }
            Edges.leaves("livingAfter(20)", reef, () -> reef.livingAfter(20));
            Edges.leaves("livingAfter(0)", reef, () -> reef.livingAfter(0));
        }
    }

    // ---- promises 28 and 29

    private static void stillWithoutABirth() {
        Check.begin("promise 28, \"no button would be born\"");
        Check.same("of an empty reef", true, Reef.fresh().isStill());
        Check.same("with a birth in the first corner", false, Look.reef(".a", "aa").isStill());
        Check.same("with a birth in the last corner", false,
            Look.reef("", "", "", "", "", "", "......aa", "......a.").isStill());
        Check.same("with a bleached button in place of the birth", true, Look.reef("#a", "aa").isStill());
    }

    private static void stillWithoutABleaching() {
        Check.begin("promise 28, \".. bleached ..\"");
        Check.same("a lonely button in the first cell", false, Look.reef("a").isStill());
        Check.same("a lonely button in the last cell", false, Look.reef("", "", "", "", "", "", "", ".......a").isStill());
        Check.same("a pair", false, Look.reef("aa").isStill());
        Check.same("four", true, Look.reef("aa", "aa").isStill());
        Check.same("64 living buttons", false, Edges.full('a').isStill());
    }

    private static void stillWithoutAWashing() {
        Check.begin("promise 28, \".. or washed away by a tide now\"");
        Check.same("a lonely bleached button in the first cell", false, Look.reef("#").isStill());
        Check.same("one in the last cell", false, Look.reef("", "", "", "", "", "", "", ".......#").isStill());
        Check.same("a bleached button beside four", true, Look.reef("aa#", "aa").isStill());
        Check.same("a bleached button apart from four", false, Look.reef("aa.#", "aa").isStill());
        Check.same("64 bleached buttons", false, Edges.full('#').isStill());
        Check.same("64 bleached buttons are still after one tide", 1, Edges.full('#').tidesUntilStill());
    }

    private static void stillThoughAgesChange() {
        Check.begin("promise 28, \"Ages do not matter\"");
        Reef reef = Look.reef("aa", "aa");
        for (int tides = 0; tides <= 10; tides++) {
            Check.same("isStill() after " + tides + " tides", true, reef.isStill());
            Check.same("tidesUntilStill() after " + tides + " tides", 0, reef.tidesUntilStill());
            reef.passTides(1);
        }
        Edges.leaves("isStill()", reef, reef::isStill);
    }

    private static void stillNow() {
        Check.begin("promise 29, \"the number of tides, 0 if it is still now\"");
        Check.same("of an empty reef", 0, Reef.fresh().tidesUntilStill());
        Check.same("of four", 0, Look.reef("aa", "aa").tidesUntilStill());
        Reef reef = Edges.lived();
        Edges.leaves("tidesUntilStill()", reef, reef::tidesUntilStill);
    }

    private static void stillAfterOneTide() {
        Check.begin("promise 29, \"after how many tides the reef would be still for the first time\"");
        Check.same("of a lonely bleached button", 1, Look.reef("#").tidesUntilStill());
        Check.same("of three in a corner", 1, Look.reef("aa", "a").tidesUntilStill());
        Check.same("of a lonely button", 2, Look.reef("a").tidesUntilStill());
        Check.same("of a pair", 2, Look.reef("ab").tidesUntilStill());
    }

    private static void stillAfter40And41Tides() {
        Check.begin("promise 29, \"if it would not be still after any of 0 to 40 tides\"");
        Reef forty = fromBits(0x1fd1a8d6a5a5a566L, 0x4000060008080a01L);
        Check.same("after 40 tides", 40, forty.tidesUntilStill());
        Reef more = fromBits(0x498bca8a8a88bf41L, 0xb6603030600040b8L);
        Edges.fails("after 41 tides", Edges.NO_ELEMENT, more, more::tidesUntilStill);
        more.passTides(1);
        Check.same("after 40 tides, one tide later", 40, more.tidesUntilStill());
        more.passTides(20);
        more.passTides(19);
        Check.same("ahead of the last tide", 1, more.tidesUntilStill());
        Check.same("isStill() ahead of the last tide", false, more.isStill());
        more.passTides(1);
        Check.same("after the last tide", 0, more.tidesUntilStill());
        Check.same("isStill() after the last tide", true, more.isStill());
    }

    /** Reefs that a search has found: bit n is for cell n, the living buttons' and then the bleached buttons'. */
    private static Reef fromBits(long living, long bleached) {
        Reef reef = Reef.fresh();
        for (int cell = 0; cell < 64; cell++) {
            if (((living | bleached) >>> cell & 1) == 1) {
                reef.place(cell / 8, cell % 8, 'a');
            }
            if ((bleached >>> cell & 1) == 1) {
                reef.bleach(cell / 8, cell % 8);
            }
        }
        return reef;
    }

    private static void stillAfter49Tides() {
        Check.begin("promise 29, \"Throws NoSuchElementException\"");
        Reef late = fromBits(0xcf8921c302836a1dL, 0x3000483879281080L);
        for (int passed = 0; passed < 9; passed++) {
            Edges.fails(passed + " of 49 tides", Edges.NO_ELEMENT, late, late::tidesUntilStill);
            late.passTides(1);
        }
        Check.same("9 of 49 tides", 40, late.tidesUntilStill());
    }

    // ---- promises 30 to 33

    private static void promises30To32() {
        Check.begin("promises 30 to 32, \"the number of neighbours, 0 to 8\"");
        String[] births = {"000100000", "000100100", "000100000"};
        String[] survivals = {"001100000", "001100000", "011111000"};
        for (int i = 0; i < 3; i++) {
            Reef reef = Reef.fresh();
            Edges.useRule(reef, "cbs".charAt(i));
            Check.same("rule()", "cbs".charAt(i), reef.rule());
            for (int number = 0; number <= 8; number++) {
                Check.same("isBirth(" + number + ") by " + reef.rule(), births[i].charAt(number) == '1',
                    reef.isBirth(number));
                Check.same("isSurvival(" + number + ") by " + reef.rule(), survivals[i].charAt(number) == '1',
                    reef.isSurvival(number));
            }
        }
        Check.begin("promises 31 and 32, \"Throws IllegalArgumentException if neighbours is out of range\"");
        Edges.refusesNumbers("isBirth", Edges.BAD_ARGUMENT, 0, 8, (reef, number) -> reef.isBirth(number));
        Edges.refusesNumbers("isSurvival", Edges.BAD_ARGUMENT, 0, 8, (reef, number) -> reef.isSurvival(number));
    }

    private static void promise33() {
        Check.begin("promise 33, \"the number of tides that have passed so far\"");
        Reef reef = Reef.fresh();
        Check.same("tideCount() at first", 0, reef.tideCount());
        reef.passTides(1);
        Check.same("tideCount() after the least number", 1, reef.tideCount());
        reef.passTides(20);
        Check.same("tideCount() after the greatest number", 21, reef.tideCount());
        Look.run(reef, "tide 20;tide 1;tide 09");
        Check.same("tideCount() after commands", 51, reef.tideCount());
        Check.outcome(() -> reef.passTides(21));
        Check.outcome(() -> Look.run(reef, "tide 5;tide 21"));
        Check.same("tideCount() after tides that did not pass", 51, reef.tideCount());
        reef.livingAfter(20);
        reef.wouldLive(0, 0);
        reef.tidesUntilStill();
        Check.same("tideCount() after forecasts", 51, reef.tideCount());
        reef.undo();
        Check.same("tideCount() after undo", 21, reef.tideCount());
    }
}
