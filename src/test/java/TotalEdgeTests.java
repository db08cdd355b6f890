/** Promises 34 to 46: each boundary case that a sentence of them names. */
public final class TotalEdgeTests {
    private TotalEdgeTests() {
    }

    public static void main(String[] args) {
        promise34();
        promise35();
        promise36();
        promise37();
        promise38();
        promise39();
        promise40();
        promise41();
        promise42();
        promise43();
        promise44();
        promise45();
        promise46();
        Check.end();
    }

    private static void promise39() {
        rowsOfAnEmptyReef();
        rowsWithTheMostFirst();
        rowsWithMoreBleachedButtonsFirst();
        rowsWithTheLowerIndexFirst();
        rowsWithoutSuchAPosition();
    }

    private static void promise40() {
        coloursOfAnEmptyReef();
        coloursWithTheMostFirst();
        coloursInTheAlphabet();
        coloursWithoutSuchAPosition();
    }

    private static void promise44() {
        writeRowWithEverySign();
        writeRowInCapitalsFromAge5();
        writeRowInPlaceOfTheEarlierOutput();
        writeRowWithoutSuchARow();
    }

    private static void promise46() {
        outputIsEmptyAtFirst();
        outputAtItsEnds();
        outputIsLeftByOtherCalls();
    }

    // ---- promises 34 to 38

    private static void promise34() {
        Check.begin("promise 34, \"by place and by plant\"");
        Reef reef = Reef.fresh();
        Check.same("placedCount() at first", 0, reef.placedCount());
        reef.place(2, 4, 'a');
        Check.same("placedCount() after place", 1, reef.placedCount());
        int placed = 1;
        int[] sizes = {4, 3, 5, 5};
        for (int i = 0; i < 4; i++) {
            reef.plant(i / 2 * 4, i % 2 * 4 + 1, "qlxg".charAt(i), 'b');
            placed += sizes[i];
            Check.same("placedCount() after plant", placed, reef.placedCount());
        }
        reef.passTides(1);
        reef.bleach(4, 2);
        reef.remove(4, 2);
        reef.recolour(0, 1, 'd');
        Check.same("placedCount() after other changes", placed, reef.placedCount());
        Check.outcome(() -> reef.place(0, 1, 'a'));
        Check.outcome(() -> reef.plant(0, 1, 'x', 'a'));
        Check.outcome(() -> reef.plant(7, 7, 'x', 'a'));
        Check.same("placedCount() after rejected calls", placed, reef.placedCount());
        Look.run(reef, "place 70 a;remove 70;place 70 b;remove 70;plant 30 lc");
        Check.same("placedCount() after commands", placed + 5, reef.placedCount());
        reef.undo();
        Check.same("placedCount() after undo", placed, reef.placedCount());
        Check.same("placedCount() of a full reef", 64, Edges.full('a').placedCount());
        Check.same("placedCount() of 64 bleached buttons", 64, Edges.full('#').placedCount());
    }

    private static void promise35() {
        Check.begin("promise 35, \"the number of buttons that have been removed so far\"");
        Reef reef = Look.reef("ab#d");
        Check.same("removedCount() at first", 0, reef.removedCount());
        reef.remove(0, 0);
        Check.same("removedCount() after a living one", 1, reef.removedCount());
        reef.remove(0, 2);
        Check.same("removedCount() after a bleached one", 2, reef.removedCount());
        Check.outcome(() -> reef.remove(0, 0));
        Check.outcome(() -> reef.remove(8, 0));
        Check.same("removedCount() after calls that throw", 2, reef.removedCount());
        reef.passTides(5);
        Check.same("washedCount()", 2, reef.washedCount());
        Check.same("removedCount() after washing", 2, reef.removedCount());
        Look.run(reef, "place 00 a;remove 00;place 00 a;bleach 00;remove 00");
        Check.same("removedCount() after commands", 4, reef.removedCount());
        reef.undo();
        Check.same("removedCount() after undo", 2, reef.removedCount());
    }

    private static void promise36() {
        Check.begin("promise 36, \"the number of buttons that have been born so far\"");
        Reef reef = Look.reef("aa", "a.");
        Check.same("bornCount() at first", 0, reef.bornCount());
        reef.livingAfter(20);
        Check.same("bornCount() after a forecast", 0, reef.bornCount());
        reef.passTides(1);
        Check.same("bornCount() after a birth", 1, reef.bornCount());
        reef.passTides(20);
        Check.same("bornCount() after tides without births", 1, reef.bornCount());
        reef.plant(5, 5, 'l', 'd');
        Check.same("bornCount() after plant", 1, reef.bornCount());
        Check.same("the births of a command", 1, Look.run(reef, "tide 1"));
        Check.same("bornCount() after a command", 3, reef.bornCount());
        reef.remove(4, 6);
        Check.same("bornCount() after a born one is removed", 3, reef.bornCount());
        reef.undo();
        reef.undo();
        Check.same("bornCount() after undo", 1, reef.bornCount());
    }

    private static void promise37() {
        Check.begin("promise 37, \"by bleach and by tides\"");
        Reef reef = Look.reef("aa", "aa", "", "", "", "a.....b");
        Check.same("bleachings() at first", 0, reef.bleachings());
        reef.bleach(0, 0);
        Check.same("bleachings() after bleach", 1, reef.bleachings());
        Check.outcome(() -> reef.bleach(0, 0));
        Check.outcome(() -> reef.bleach(7, 7));
        Check.outcome(() -> reef.bleach(0, 8));
        Check.same("bleachings() after calls that throw", 1, reef.bleachings());
        reef.passTides(1);
        Check.same("bleachings() after a tide", 3, reef.bleachings());
        reef.passTides(1);
        Check.same("bleachings() after washing", 3, reef.bleachings());
        reef.remove(0, 0);
        Check.same("bleachings() after a bleached one is removed", 3, reef.bleachings());
        Look.run(reef, "bleach 01;place 77 a;tide 1");
        Check.same("bleachings() after commands", 7, reef.bleachings());
        reef.undo();
        Check.same("bleachings() after undo", 3, reef.bleachings());
    }

    private static void promise38() {
        Check.begin("promise 38, \"bleached buttons that have been washed away so far\"");
        Reef reef = Look.reef("#.#.#a", "", "", "aa", "aa#");
        Check.same("washedCount() at first", 0, reef.washedCount());
        reef.remove(0, 0);
        Check.same("washedCount() after a removal", 0, reef.washedCount());
        reef.passTides(1);
        Check.same("washedCount() after a tide", 1, reef.washedCount());
        reef.passTides(1);
        Check.same("washedCount() after another tide", 3, reef.washedCount());
        reef.passTides(20);
        Check.same("washedCount() with one that stays", 3, reef.washedCount());
        Look.run(reef, "place 77 a;tide 2");
        Check.same("washedCount() after commands", 4, reef.washedCount());
        reef.undo();
        Check.same("washedCount() after undo", 3, reef.washedCount());
        Reef all = Edges.full('#');
        all.passTides(1);
        Check.same("washedCount() of all", 64, all.washedCount());
    }

    // ---- promises 39 and 40

    private static void rowOrder(String due, Reef reef) {
        StringBuilder found = new StringBuilder();
        for (int position = 0; position < 8; position++) {
            found.append(reef.rowByLiving(position));
        }
        Check.same("the rows in order", due, found.toString());
    }

    private static void rowsOfAnEmptyReef() {
        Check.begin("promise 39, an empty reef and full ones");
        rowOrder("01234567", Reef.fresh());
        rowOrder("01234567", Edges.full('a'));
        rowOrder("01234567", Edges.full('#'));
    }

    private static void rowsWithTheMostFirst() {
        Check.begin("promise 39, \"the row with the most first\"");
        rowOrder("76543210", Look.reef("a", "aa", "aaa", "abcd", "aaaaa", "aaaaaa", "aaaaaaa", "aaaaaaaa"));
        rowOrder("70123456", Look.reef("", "", "", "", "", "", "", "d"));
        rowOrder("10234567", Look.reef("#######a", "aa"));
        Edges.leaves("rowByLiving(0)", Edges.lived(), () -> Edges.lived().rowByLiving(0));
    }

    private static void rowsWithMoreBleachedButtonsFirst() {
        Check.begin("promise 39, \"the one with more bleached buttons comes first\"");
        rowOrder("76543210", Look.reef("a", "a#", "a##", "a###", "a####", "a#####", "a######", "a#######"));
        rowOrder("70123456", Look.reef("", "", "", "", "", "", "", "#"));
        rowOrder("53012467", Look.reef("b", "b", "b", "b#", "b", "b##", "b", "b"));
    }

    private static void rowsWithTheLowerIndexFirst() {
        Check.begin("promise 39, \"then the one with the lower index\"");
        rowOrder("23567014", Look.reef("", "", "a#", "b#", "", "c#", "d#", "a#"));
        rowOrder("07123456", Look.reef("aa", "", "", "", "", "", "", "bb"));
    }

    private static void rowsWithoutSuchAPosition() {
        Check.begin("promise 39, \"Throws NoSuchElementException if there is no such position\"");
        Edges.refusesNumbers("rowByLiving", Edges.NO_ELEMENT, 0, 7, (reef, position) -> reef.rowByLiving(position));
        Reef empty = Reef.fresh();
        Edges.fails("rowByLiving(-1)", Edges.NO_ELEMENT, empty, () -> empty.rowByLiving(-1));
        Edges.fails("rowByLiving(8)", Edges.NO_ELEMENT, empty, () -> empty.rowByLiving(8));
    }

    private static void colourOrder(String due, Reef reef) {
        StringBuilder found = new StringBuilder();
        for (int position = 0; position < 4; position++) {
            found.append(reef.colourByCount(position));
        }
        Check.same("the colours in order", due, found.toString());
    }

    private static void coloursOfAnEmptyReef() {
        Check.begin("promise 40, an empty reef and full ones");
        colourOrder("abcd", Reef.fresh());
        colourOrder("abcd", Edges.full('#'));
        colourOrder("dabc", Edges.full('d'));
    }

    private static void coloursWithTheMostFirst() {
        Check.begin("promise 40, \"the colour of the most living buttons first\"");
        colourOrder("dcba", Look.reef("a", "bb", "ccc", "dddd"));
        colourOrder("bdac", Look.reef("bdbabdc", "bda"));
        Reef reef = Look.reef("aaab", "bcc");
        reef.bleach(0, 0);
        reef.bleach(0, 1);
        colourOrder("bcad", reef);
    }

    private static void coloursInTheAlphabet() {
        Check.begin("promise 40, \"the first one in the alphabet comes first\"");
        colourOrder("abcd", Look.reef("dcba"));
        colourOrder("cdab", Look.reef("dcdcab"));
        colourOrder("bdac", Look.reef("db"));
        colourOrder("cabd", Look.reef("dcbac"));
    }

    private static void coloursWithoutSuchAPosition() {
        Check.begin("promise 40, \"Throws NoSuchElementException if there is no such position\"");
        Edges.refusesNumbers("colourByCount", Edges.NO_ELEMENT, 0, 3, (reef, position) -> reef.colourByCount(position));
        Reef empty = Reef.fresh();
        Edges.fails("colourByCount(-1)", Edges.NO_ELEMENT, empty, () -> empty.colourByCount(-1));
        Edges.fails("colourByCount(4)", Edges.NO_ELEMENT, empty, () -> empty.colourByCount(4));
    }

    // ---- promises 41 to 43

    private static void promise41() {
        Check.begin("promise 41, \"Throws ArithmeticException if there are no living buttons\"");
        Reef empty = Reef.fresh();
        Edges.fails("meanAge() of an empty reef", ArithmeticException.class, empty, empty::meanAge);
        Reef bleached = Look.reef("##");
        Edges.fails("meanAge() of bleached buttons", ArithmeticException.class, bleached, bleached::meanAge);
        Reef gone = Look.reef("a");
        gone.remove(0, 0);
        Edges.fails("meanAge() after the last removal", ArithmeticException.class, gone, gone::meanAge);
        Check.begin("promise 41, \"the sum of their ages divided by their number\"");
        Check.same("meanAge() of one new button", 0.0, Look.reef("a").meanAge());
        Check.same("meanAge() of a new button and a bleached one", 0.0, Look.reef("a#").meanAge());
        Reef reef = Look.reef("aa", "aa");
        reef.passTides(20);
        Check.same("meanAge() of the oldest", 9.0, reef.meanAge());
        reef.bleach(0, 0);
        Check.same("meanAge() without a bleached one", 9.0, reef.meanAge());
        reef.place(5, 5, 'a');
        Check.same("meanAge() of three and a new one", 27.0 / 4.0, reef.meanAge());
        reef.plant(6, 0, 'l', 'a');
        Check.same("meanAge() of seven", 27.0 / 7.0, reef.meanAge());
    }

    private static void promise42() {
        Check.begin("promise 42, \"Throws ArithmeticException if there are no buttons\"");
        Reef empty = Reef.fresh();
        Edges.fails("livingShare() of an empty reef", ArithmeticException.class, empty, empty::livingShare);
        Reef gone = Look.reef("#");
        gone.passTides(1);
        Edges.fails("livingShare() after the last washing", ArithmeticException.class, gone, gone::livingShare);
        Check.begin("promise 42, \"both numbers converted to float\"");
        Check.same("livingShare() of one bleached button", 0.0f, Look.reef("#").livingShare());
        Check.same("livingShare() of 64 bleached buttons", 0.0f, Edges.full('#').livingShare());
        Check.same("livingShare() of one living button", 1.0f, Look.reef("d").livingShare());
        Check.same("livingShare() of 64 living buttons", 1.0f, Edges.full('d').livingShare());
        Check.same("livingShare() of one of two", 0.5f, Look.reef("d#").livingShare());
        Check.same("livingShare() of one of three", 1.0f / 3.0f, Look.reef("d##").livingShare());
        Reef most = Edges.full('a');
        most.bleach(7, 7);
        Check.same("livingShare() of 63 of 64", 63.0f / 64.0f, most.livingShare());
    }

    private static void promise43() {
        Check.begin("promise 43, \"whether all this is true\"");
        Reef[] reefs = {Reef.fresh(), Look.reef("a"), Look.reef("#"), Edges.full('a'), Edges.full('#'), Edges.lived()};
        for (int i = 0; i < reefs.length; i++) {
            Reef reef = reefs[i];
            Check.same("isConsistent() of reef " + i, true, reef.isConsistent());
            Edges.leaves("isConsistent()", reef, reef::isConsistent);
            reef.passTides(20);
            Check.same("isConsistent() of reef " + i + " after tides", true, reef.isConsistent());
        }
    }

    // ---- promises 44 to 46

    private static void writeRowWithEverySign() {
        Check.begin("promise 44, \"for each cell \".\" if it is empty, \"#\" for a bleached button, or the colour\"");
        Reef reef = Look.reef("a#.bcd#.", "", "", "", "", "", "", ".#dcba.#");
        Check.same("writeRow(0)", 8, reef.writeRow(0));
        Check.same("the first row", "output a#.bcd#.", Look.written(reef));
        Check.same("writeRow(7)", 8, reef.writeRow(7));
        Check.same("the last row", "output .#dcba.#", Look.written(reef));
        Check.same("writeRow(1)", 8, reef.writeRow(1));
        Check.same("an empty row", "output ........", Look.written(reef));
        Check.same("a full row", "dddddddd", Look.row(Edges.full('d'), 7));
        Check.same("a bleached row", "########", Look.row(Edges.full('#'), 0));
    }

    private static void writeRowInCapitalsFromAge5() {
        Check.begin("promise 44, \"as a capital letter if its age is 5 or more\"");
        Reef reef = Look.reef("ab...cd.", "ba...dc.");
        for (int tides = 0; tides <= 11; tides++) {
            Check.same("row 0 after " + tides + " tides", tides < 5 ? "ab...cd." : "AB...CD.", Look.row(reef, 0));
            Check.same("row 1 after " + tides + " tides", tides < 5 ? "ba...dc." : "BA...DC.", Look.row(reef, 1));
            reef.passTides(1);
        }
        Check.same("colourAt of a capital", 'a', reef.colourAt(0, 0));
        reef.bleach(0, 0);
        reef.remove(0, 1);
        reef.place(0, 1, 'd');
        Check.same("old, bleached and new", "#d...CD.", Look.row(reef, 0));
    }

    private static void writeRowInPlaceOfTheEarlierOutput() {
        Check.begin("promises 44 and 45, \"in place of the earlier output\"");
        Reef reef = Look.reef("abcdabcd");
        reef.setRule('s');
        Check.same("writeRule()", 14, reef.writeRule());
        Check.same("the rule", "output slow b3/s12345", Look.written(reef));
        Check.same("writeRow(0)", 8, reef.writeRow(0));
        Check.same("a shorter output", "output abcdabcd", Look.written(reef));
        Check.same("writeRow(0) again", 8, reef.writeRow(0));
        Check.same("no second one behind it", "output abcdabcd", Look.written(reef));
        Check.same("writeRule() again", 14, reef.writeRule());
        Check.same("a longer output", "output slow b3/s12345", Look.written(reef));
        Check.same("writeRule() once more", 14, reef.writeRule());
        Check.same("no second one behind it", "output slow b3/s12345", Look.written(reef));
    }

    private static void writeRowWithoutSuchARow() {
        Check.begin("promise 44, \"Throws IndexOutOfBoundsException if there is no such row\"");
        Edges.refusesNumbers("writeRow", Edges.NO_INDEX, 0, 7, (reef, row) -> reef.writeRow(row));
        Reef unwritten = Reef.fresh();
        Edges.fails("writeRow(-1) with an empty output", Edges.NO_INDEX, unwritten, () -> unwritten.writeRow(-1));
        Edges.fails("writeRow(8) with an empty output", Edges.NO_INDEX, unwritten, () -> unwritten.writeRow(8));
    }

    private static void promise45() {
        Check.begin("promise 45, \"the numbers of neighbours for births .. and those for survivals in ascending order\"");
        String[] due = {"calm b3/s23", "busy b36/s23", "slow b3/s12345"};
        for (String text : due) {
            Reef reef = Reef.fresh();
            Edges.useRule(reef, text.charAt(0));
            Check.same("writeRule()", text.length(), reef.writeRule());
            Check.same("the output", "output " + text, Look.written(reef));
        }
        Reef reef = Edges.lived();
        String before = Look.data(reef) + Look.history(reef) + Look.saved(reef) + Look.input(reef) + Look.rejection(reef);
        reef.writeRow(3);
        reef.writeRule();
        Check.same("all but the output", before,
            Look.data(reef) + Look.history(reef) + Look.saved(reef) + Look.input(reef) + Look.rejection(reef));
    }

    private static void outputIsEmptyAtFirst() {
        Check.begin("promise 46, \"The output is empty at first\"");
        Reef reef = Look.reef("a");
        Edges.fails("outputAt(0)", Edges.NO_INDEX, reef, () -> reef.outputAt(0));
        Edges.fails("outputAt(-1)", Edges.NO_INDEX, reef, () -> reef.outputAt(-1));
        Edges.fails("outputAt(1)", Edges.NO_INDEX, reef, () -> reef.outputAt(1));
    }

    private static void outputAtItsEnds() {
        Check.begin("promise 46, \"Throws IndexOutOfBoundsException if there is no character at this index\"");
        Edges.refusesNumbers("outputAt in 14 characters", Edges.NO_INDEX, 0, 13, (reef, index) -> reef.outputAt(index));
        Reef reef = Look.reef("a......b");
        reef.writeRule();
        Check.same("outputAt(0)", 'c', reef.outputAt(0));
        Check.same("outputAt(10)", '3', reef.outputAt(10));
        Edges.fails("outputAt(11)", Edges.NO_INDEX, reef, () -> reef.outputAt(11));
        reef.writeRow(0);
        Check.same("outputAt(0) of a row", 'a', reef.outputAt(0));
        Check.same("outputAt(7) of a row", 'b', reef.outputAt(7));
        Edges.fails("outputAt(8) of a row", Edges.NO_INDEX, reef, () -> reef.outputAt(8));
        Edges.fails("outputAt(-1) of a row", Edges.NO_INDEX, reef, () -> reef.outputAt(-1));
        Edges.leaves("outputAt(0)", reef, () -> reef.outputAt(0));
    }

    private static void outputIsLeftByOtherCalls() {
        Check.begin("promise 46, the output as it was written");
        Reef reef = Look.reef("a");
        reef.saveSnapshot();
        reef.writeRow(0);
        reef.passTides(1);
        reef.setRule('b');
        Check.same("after changes", "output a.......", Look.written(reef));
        reef.undo();
        Check.same("after undo", "output a.......", Look.written(reef));
        reef.restoreSnapshot();
        Check.same("after restoreSnapshot", "output a.......", Look.written(reef));
        Look.run(reef, "tide 1");
        Check.outcome(() -> Look.run(reef, "tide"));
        Check.same("after execute", "output a.......", Look.written(reef));
    }
}
