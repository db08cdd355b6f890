import java.util.NoSuchElementException;

/** Promises 44 to 55: ordinary inputs, the edges that the document names, and wrong inputs. */
public final class TextAndHistoryTests {
    private static final Class<?> NO_INDEX = IndexOutOfBoundsException.class;
    private static final Class<?> BAD_ARGUMENT = IllegalArgumentException.class;
    private static final Class<?> BAD_STATE = IllegalStateException.class;
    private static final Class<?> NO_ELEMENT = NoSuchElementException.class;
    private static final Class<?> REJECTED = UnsupportedOperationException.class;

    private TextAndHistoryTests() {
    }

    public static void main(String[] args) {
        promise44WriteRow();
        promise45WriteRule();
        promise46OutputAt();
        promise47AppendInput();
        promise48Commands();
        promise48AllOrNone();
        promise48NotAccepted();
        promise48Rejected();
        promise48Order();
        promise49SyntaxErrors();
        promise49EveryCharacter();
        promise49LatestSyntaxError();
        promises50To52Rejections();
        promise53Undo();
        promise53UndoLimit();
        promise54SaveSnapshot();
        promise55RestoreSnapshot();
        Check.end();
    }

    // ---- text output

    private static void promise44WriteRow() {
        Check.begin("promise 44");
        Reef reef = Look.reef("ab", "cd", "", "", "", "", "", "a......#");
        Check.same("writeRow(0)", 8, reef.writeRow(0));
        Check.same("row 0", "ab......", Look.row(reef, 0));
        Check.same("row 7", "a......#", Look.row(reef, 7));
        reef.passTides(4);
        Check.same("row 0 at age 4", "ab......", Look.row(reef, 0));
        reef.passTides(1);
        Check.same("row 0 at age 5", "AB......", Look.row(reef, 0));
        Check.same("row 1 at age 5", "CD......", Look.row(reef, 1));
        reef.passTides(10);
        Check.same("row 1 at age 9", "CD......", Look.row(reef, 1));
        reef.bleach(1, 1);
        Check.same("row 1 with a bleached button", "C#......", Look.row(reef, 1));
        reef.writeRow(0);
        for (int row : new int[] {-1, 8, Integer.MIN_VALUE, Integer.MAX_VALUE}) {
            Check.fails("writeRow(" + row + ")", NO_INDEX, () -> reef.writeRow(row));
        }
        Check.same("the output after wrong rows", "output AB......", Look.written(reef));
    }

    private static void promise45WriteRule() {
        Check.begin("promise 45");
        Reef reef = Reef.fresh();
        String[] due = {"calm b3/s23", "busy b36/s23", "slow b3/s12345"};
        for (String text : due) {
            if (reef.rule() != text.charAt(0)) {
                reef.setRule(text.charAt(0));
            }
            Check.same("writeRule()", text.length(), reef.writeRule());
            Check.same("the rule", "output " + text, Look.written(reef));
            Check.fails("behind the rule", NO_INDEX, () -> reef.outputAt(text.length()));
        }
    }

    private static void promise46OutputAt() {
        Check.begin("promise 46");
        Reef reef = Look.reef("a");
        for (int index : new int[] {-1, 0, 1, Integer.MIN_VALUE, Integer.MAX_VALUE}) {
            Check.fails("outputAt(" + index + ") at first", NO_INDEX, () -> reef.outputAt(index));
        }
        reef.setRule('s');
        reef.writeRule();
        Check.same("outputAt(13)", '5', reef.outputAt(13));
        reef.writeRow(0);
        Check.same("outputAt(0)", 'a', reef.outputAt(0));
        Check.same("outputAt(7)", '.', reef.outputAt(7));
        for (int index : new int[] {-1, 8, 13, 31, 32, Integer.MIN_VALUE, Integer.MAX_VALUE}) {
            Check.fails("outputAt(" + index + ")", NO_INDEX, () -> reef.outputAt(index));
        }
        reef.saveSnapshot();
        reef.place(0, 1, 'b');
        reef.undo();
        reef.restoreSnapshot();
        Look.run(reef, "tide 1");
        Check.same("the output after other calls", "output a.......", Look.written(reef));
    }

    // ---- commands

    private static void promise47AppendInput() {
        Check.begin("promise 47");
        Reef reef = Reef.fresh();
        String before = Look.lasting(reef) + Look.rejection(reef);
        Check.same("appendInput of the first code", 1, reef.appendInput(' '));
        Check.same("appendInput of the last code", 2, reef.appendInput('~'));
        for (char wrong : new char[] {0, 10, 31, 127, 128, 255, '\uffff'}) {
            Check.fails("appendInput of " + (int) wrong, BAD_ARGUMENT, () -> reef.appendInput(wrong));
        }
        for (int length = 3; length <= 60; length++) {
            Check.same("appendInput", length, reef.appendInput('x'));
        }
        Check.fails("appendInput to a full input", BAD_STATE, () -> reef.appendInput('x'));
        Check.fails("appendInput of a wrong code to it", BAD_ARGUMENT, () -> reef.appendInput((char) 31));
        Check.same("the rest", before, Look.lasting(reef) + Look.rejection(reef));
        Check.fails("execute()", BAD_ARGUMENT, () -> reef.execute());
        Check.same("appendInput after execute", 1, reef.appendInput('x'));
        reef.place(0, 0, 'a');
        reef.undo();
        reef.saveSnapshot();
        reef.restoreSnapshot();
        Check.same("appendInput after undo and the snapshot", 2, reef.appendInput('y'));
    }

    private static void promise48Commands() {
        Check.begin("promise 48");
        Reef reef = Reef.fresh();
        Check.same("place", 1, Look.run(reef, "place 00 a"));
        Check.same("place twice", 2, Look.run(reef, "place 07 d;place 70 b"));
        Check.same("row 0", "a......d", Look.row(reef, 0));
        Check.same("row 7", "b.......", Look.row(reef, 7));
        Check.same("colour, bleach and remove", 3, Look.run(reef, "colour 00 c;bleach 07;remove 70"));
        Check.same("row 0", "c......#", Look.row(reef, 0));
        Check.same("row 7", "........", Look.row(reef, 7));
        Check.same("plant", 4, Look.run(reef, "plant 20 qa;plant 23 lb;plant 50 xc;plant 55 gd"));
        String[] rows = {"c......#", "........", "aa.bbb..", "aa......", "........", ".c....d.", "ccc....d", ".c...ddd"};
        for (int row = 0; row < 8; row++) {
            Check.same("row " + row, rows[row], Look.row(reef, row));
        }
        Check.same("rules", 3, Look.run(reef, "rule slow;rule calm;rule busy"));
        Check.same("rule()", 'b', reef.rule());
        Check.same("tides", 3, Look.run(reef, "tide 1;tide 20;tide 07"));
        Check.same("tideCount()", 28, reef.tideCount());
        Check.same("as many commands as there can be", 8,
            Look.run(reef, "tide 1;tide 2;tide 3;tide 4;tide 5;tide 6;tide 7;tide 8"));
        Check.same("tideCount()", 64, reef.tideCount());
        Reef full = Reef.fresh();
        Look.type(full, "place 00 a;place 11 b;colour 00 d;remove 11;bleach 00;tide 1");
        Check.same("60 characters", "throws " + BAD_STATE.getName(), Check.outcome(() -> full.appendInput('2')));
        Check.same("of commands", 6, full.execute());
        Check.same("the same by calls", byCalls(), Look.data(full));
    }

    private static String byCalls() {
        Reef reef = Reef.fresh();
        reef.place(0, 0, 'a');
        reef.place(1, 1, 'b');
        reef.recolour(0, 0, 'd');
        reef.remove(1, 1);
        reef.bleach(0, 0);
        reef.passTides(1);
        return Look.data(reef);
    }

    private static void promise48AllOrNone() {
        Check.begin("promise 48");
        Reef reef = Look.reef("ab#", "b");
        for (String text : new String[] {"place 33 a;tide 1;rule busy;tid", "place 33 a;tide 1;rule busy;place 88 a",
            "place 33 a;tide 1;rule busy;tide 0", "place 33 a;tide 1;rule busy;place 33 b", "", "tide 1;"}) {
            String before = Look.data(reef);
            Check.same(text + " throws", true, Check.outcome(() -> Look.run(reef, text)) instanceof String);
            Check.same("the data after " + text, before, Look.data(reef));
            Check.same("the length of the input after " + text, 1, reef.appendInput('x'));
            Check.outcome(() -> reef.execute());
        }
        String before = Look.data(reef);
        Look.run(reef, "place 33 a;tide 1;rule busy;remove 33;place 33 d");
        Check.same("the length of the input", 1, reef.appendInput('x'));
        reef.undo();
        Check.same("all the commands are undone at once", before, Look.data(reef));
        Check.same("undo leaves the input", 2, reef.appendInput('x'));
    }

    private static void promise48NotAccepted() {
        Check.begin("promise 48");
        String[] texts = {"place 80 a", "place 08 a", "place 99 d", "remove 81", "remove 18", "bleach 80", "bleach 09",
            "colour 80 a", "colour 08 a", "plant 80 qa", "plant 08 la", "plant 99 xa", "tide 0", "tide 00", "tide 21",
            "tide 99", "tide 20;tide 1;tide 30", "place 10 a;colour 90 b", "place 88 a;place 00 a"};
        for (String text : texts) {
            Reef reef = Look.reef("ab#");
            Check.outcome(() -> reef.remove(7, 7));
            String before = Look.all(reef);
            Check.fails(text, BAD_STATE, () -> Look.run(reef, text));
            Check.same("after " + text, before, Look.all(reef));
            Check.same("commands without a cell after " + text, 2, Look.run(reef, "rule slow;tide 1"));
        }
    }

    private static void promise48Rejected() {
        Check.begin("promise 48");
        rejectsCommand("place 00 b", ButtonReef.OCCUPIED, 0);
        rejectsCommand("place 02 b", ButtonReef.OCCUPIED, 0);
        rejectsCommand("tide 1;remove 77", ButtonReef.NO_BUTTON, 1);
        rejectsCommand("bleach 77", ButtonReef.NO_BUTTON, 0);
        rejectsCommand("bleach 02", ButtonReef.BLEACHED, 0);
        rejectsCommand("bleach 00;bleach 00", ButtonReef.BLEACHED, 1);
        rejectsCommand("colour 77 a", ButtonReef.NO_BUTTON, 0);
        rejectsCommand("colour 02 a", ButtonReef.BLEACHED, 0);
        rejectsCommand("plant 77 qa", ButtonReef.OUTSIDE, 0);
        rejectsCommand("plant 00 qa", ButtonReef.OCCUPIED, 0);
        rejectsCommand("place 76 a;rule slow;plant 66 qa", ButtonReef.OCCUPIED, 2);
        rejectsCommand("rule calm", ButtonReef.SAME_RULE, 0);
        rejectsCommand("rule slow;rule calm;rule calm", ButtonReef.SAME_RULE, 2);
        rejectsCommand("tide 1;tide 1;tide 1;tide 1;tide 1;tide 1;rule calm", ButtonReef.SAME_RULE, 6);
    }

    private static void rejectsCommand(String text, int cause, int number) {
        Reef reef = Look.reef("ab#");
        String before = Look.data(reef);
        Check.fails(text, REJECTED, () -> Look.run(reef, text));
        Check.same("the data after " + text, before, Look.data(reef));
        Check.same("the reason against " + text, ButtonReef.COMMAND_REJECTED, reef.rejectionReason());
        Check.same("the command in " + text, number, reef.rejectionDetail());
        Check.same("the cause in " + text, cause, reef.causeReason());
        Check.same("the length of the input after " + text, 1, reef.appendInput('x'));
        Check.same("what undo leaves after " + text, 4, reef.undo() + 1);
    }

    private static void promise48Order() {
        Check.begin("promise 48");
        Reef reef = Look.reef("ab#");
        Check.fails("a syntax error behind all else", BAD_ARGUMENT, () -> Look.run(reef, "place 99 a;place 00 a;x"));
        Check.fails("a wrong cell first", BAD_STATE, () -> Look.run(reef, "place 99 a;place 00 a"));
        Check.fails("a rejection first", REJECTED, () -> Look.run(reef, "place 00 a;place 99 a"));
        Check.same("its number", 0, reef.rejectionDetail());
        Check.fails("a wrong number first", BAD_STATE, () -> Look.run(reef, "tide 21;rule calm"));
        Check.fails("a rejected rule first", REJECTED, () -> Look.run(reef, "rule calm;tide 21"));
        Check.same("its cause", ButtonReef.SAME_RULE, reef.causeReason());
        Look.type(reef, "place 10 a;place 11 b;tide 1");
        reef.place(1, 0, 'd');
        Check.fails("commands meet what is there now", REJECTED, () -> reef.execute());
        Check.same("undo after all that", 4, reef.undo());
    }

    private static void promise49SyntaxErrors() {
        Check.begin("promise 49");
        Object[][] due = {{"", 0}, {" ", 0}, {"x", 0}, {";", 0}, {"Place 00 a", 0}, {"q", 0}, {"1", 0}, {"p", 1},
            {"px", 1}, {"pl", 2}, {"pla", 3}, {"plax", 3}, {"plac", 4}, {"plan", 4}, {"plane 00 a", 4}, {"place", 5},
            {"placed", 5}, {"place ", 6}, {"place  00 a", 6}, {"place a0 a", 6}, {"place 0", 7}, {"place 0a a", 7},
            {"place 00", 8}, {"place 00a", 8}, {"place 00 ", 9}, {"place 000 a", 8}, {"place 00  a", 9},
            {"place 00 e", 9}, {"place 00 A", 9}, {"place 00 ab", 10}, {"place 00 a ", 10}, {"place 00 a;", 11},
            {"place 00 a; tide 1", 11}, {"place 00 a;;", 11}, {"place 00 a,tide 1", 10}, {"plant 00 a", 9},
            {"plant 00 q", 10}, {"plant 00 q a", 10}, {"plant 00 qe", 10}, {"plant 00 qq", 10}, {"plant 00 qaa", 11},
            {"plant 00 qa;x", 12}, {"plant", 5}, {"r", 1}, {"ra", 1}, {"re", 2}, {"ru", 2}, {"remov", 5}, {"remove00", 6},
            {"remove 00 ", 9}, {"remove 00 a", 9}, {"remove 0", 8}, {"b", 1}, {"bl", 2}, {"bleech", 3}, {"bleach 7", 8},
            {"bleach 77 a", 9}, {"c", 1}, {"colour 00a", 9}, {"colour 00 z", 10}, {"color 00 a", 4}, {"rule", 4},
            {"rule ", 5}, {"rule x", 5}, {"rule c", 6}, {"rule co", 6}, {"rule cal", 8}, {"rule calms", 9},
            {"rule calm ", 9}, {"rule bus", 8}, {"rule b;", 6}, {"rule slow;", 10}, {"rule Calm", 5}, {"t", 1}, {"tide", 4},
            {"tide ", 5}, {"tide x", 5}, {"tide -1", 5}, {"tide +1", 5}, {"tide 1x", 6}, {"tide 123", 7}, {"tide 12x", 7},
            {"tide 1 ", 6}, {"tide 1;", 7}, {"tide 12;", 8}, {"tide 1;tide", 11}, {"tide 1;tide 2;ru x", 16},
            {"tide 99;place 99 a;place 99 ", 28}, {"tide 1;tide 1;tide 1;tide 1;tide 1;tide 1;tide 1;tide 1;", 56},
            {"place 00 a;place 00 a;place 00 a;place 00 a;place 00 a;place ", 60}};
        for (Object[] row : due) {
            String text = ((String) row[0]).substring(0, Math.min(60, ((String) row[0]).length()));
            Reef reef = Look.reef("ab#");
            Check.outcome(() -> reef.remove(7, 7));
            String before = Look.data(reef) + reef.rejectionReason() + reef.rejectionDetail();
            Check.fails("no syntax error at first", NO_ELEMENT, () -> reef.syntaxErrorOffset());
            Check.fails("'" + text + "'", BAD_ARGUMENT, () -> Look.run(reef, text));
            Check.same("the offset in '" + text + "'", row[1], reef.syntaxErrorOffset());
            Check.same("the rest after '" + text + "'", before,
                Look.data(reef) + reef.rejectionReason() + reef.rejectionDetail());
            Check.same("the length of the input after '" + text + "'", 1, reef.appendInput('x'));
        }
    }

    /** Puts each character in place of each character of commands that are right. */
    private static void promise49EveryCharacter() {
        Check.begin("promise 49");
        for (String text : new String[] {"place 12 a;remove 34", "bleach 56;colour 70 d", "plant 01 gb;tide 19",
            "rule calm;rule busy", "rule slow;tide 3"}) {
            for (int at = 0; at <= text.length(); at++) {
                for (char sign = 32; sign <= 126; sign++) {
                    String changed = text.substring(0, at) + sign + text.substring(Math.min(at + 1, text.length()));
                    int due = PlainCommands.errorOffset(changed);
                    Reef reef = Reef.fresh();
                    Object outcome = Check.outcome(() -> Look.run(reef, changed));
                    boolean isError = outcome.equals("throws " + BAD_ARGUMENT.getName());
                    Check.same("a syntax error in '" + changed + "'", due >= 0, isError);
                    if (due >= 0 && isError) {
                        Check.same("the offset in '" + changed + "'", due, reef.syntaxErrorOffset());
                    }
                }
            }
        }
    }

    private static void promise49LatestSyntaxError() {
        Check.begin("promise 49");
        Reef reef = Reef.fresh();
        reef.place(0, 0, 'a');
        reef.saveSnapshot();
        Check.outcome(() -> Look.run(reef, "tide x"));
        Check.same("the first", 5, reef.syntaxErrorOffset());
        Check.outcome(() -> Look.run(reef, "p"));
        Check.same("the second", 1, reef.syntaxErrorOffset());
        Look.run(reef, "tide 1");
        Check.same("after commands that are right", 1, reef.syntaxErrorOffset());
        Check.outcome(() -> Look.run(reef, "tide 0"));
        Check.outcome(() -> Look.run(reef, "remove 77"));
        Check.same("after commands that fail otherwise", 1, reef.syntaxErrorOffset());
        reef.undo();
        reef.undo();
        reef.restoreSnapshot();
        Check.same("after undo and the snapshot", 1, reef.syntaxErrorOffset());
    }

    // ---- rejections and history

    private static void promises50To52Rejections() {
        Check.begin("promises 50 to 52");
        Reef reef = Reef.fresh();
        reef.saveSnapshot();
        Check.fails("rejectionReason() at first", NO_ELEMENT, () -> reef.rejectionReason());
        Check.fails("rejectionDetail() at first", NO_ELEMENT, () -> reef.rejectionDetail());
        Check.fails("causeReason() at first", NO_ELEMENT, () -> reef.causeReason());
        Check.outcome(() -> reef.remove(0, 0));
        Check.same("rejectionReason()", 2, reef.rejectionReason());
        Check.same("rejectionDetail() of cell 0", 0, reef.rejectionDetail());
        Check.fails("causeReason() of a call", NO_ELEMENT, () -> reef.causeReason());
        Check.outcome(() -> Look.run(reef, "rule calm"));
        Check.same("rejectionReason() of a command", 6, reef.rejectionReason());
        Check.same("rejectionDetail() of a command", 0, reef.rejectionDetail());
        Check.same("causeReason() of a command", 5, reef.causeReason());
        String latest = Look.rejection(reef) + Look.offset(reef);
        reef.place(0, 0, 'a');
        reef.passTides(3);
        Check.outcome(() -> reef.place(8, 8, 'a'));
        Check.outcome(() -> reef.place(0, 0, 'e'));
        Check.outcome(() -> reef.passTides(0));
        Check.outcome(() -> reef.meanAge());
        Check.outcome(() -> Look.run(reef, "tide 0"));
        Look.run(reef, "place 11 a");
        reef.undo();
        reef.restoreSnapshot();
        Check.outcome(() -> reef.undo());
        Check.same("the latest rejection after other calls", latest, Look.rejection(reef) + Look.offset(reef));
        Check.outcome(() -> reef.plant(7, 7, 'x', 'a'));
        Check.same("rejectionReason() after another rejection", 4, reef.rejectionReason());
        Check.same("rejectionDetail() after another rejection", 5, reef.rejectionDetail());
        Check.fails("causeReason() after another rejection", NO_ELEMENT, () -> reef.causeReason());
    }

    private static void promise53Undo() {
        Check.begin("promise 53");
        Reef reef = Reef.fresh();
        Check.fails("undo() at first", BAD_STATE, () -> reef.undo());
        String[] data = new String[9];
        Check.Call[] changes = {() -> reef.place(0, 0, 'a'), () -> reef.plant(1, 0, 'l', 'b'),
            () -> reef.bleach(1, 0), () -> reef.recolour(1, 1, 'd'), () -> reef.remove(0, 0), () -> reef.setRule('s'),
            () -> reef.passTides(2), () -> Look.run(reef, "tide 3;rule busy")};
        for (int i = 0; i < 8; i++) {
            data[i] = Look.data(reef);
            changes[i].run();
            Check.outcome(() -> reef.setRule(reef.rule()));
            Check.outcome(() -> reef.place(-1, 0, 'a'));
        }
        for (int i = 7; i >= 0; i--) {
            Check.same("undo() of change " + i, i, reef.undo());
            Check.same("the data ahead of change " + i, data[i], Look.data(reef));
        }
        Check.fails("undo() at the end", BAD_STATE, () -> reef.undo());
        Check.same("the data at the end", data[0], Look.data(reef));
        changes[0].run();
        changes[1].run();
        reef.undo();
        reef.place(5, 5, 'a');
        Check.same("undo() of the change after an undo", 1, reef.undo());
        Check.same("the data ahead of it", data[1], Look.data(reef));
        Check.same("undo() of the first", 0, reef.undo());
    }

    private static void promise53UndoLimit() {
        Check.begin("promise 53");
        for (int changes = 7; changes <= 25; changes++) {
            Reef reef = Reef.fresh();
            for (int i = 0; i < changes; i++) {
                reef.place(i / 8, i % 8, 'a');
            }
            int undoable = Math.min(changes, 8);
            for (int i = 1; i <= undoable; i++) {
                Check.same("undo() number " + i + " of " + changes, undoable - i, reef.undo());
                Check.same("placedCount()", changes - i, reef.placedCount());
            }
            Check.fails("undo() after " + changes + " changes", BAD_STATE, () -> reef.undo());
            Check.same("livingCount()", changes - undoable, reef.livingCount());
        }
    }

    private static void promise54SaveSnapshot() {
        Check.begin("promise 54");
        Reef reef = Look.reef("ab#c");
        Check.same("saveSnapshot()", 3, reef.saveSnapshot());
        String first = Look.data(reef);
        reef.passTides(2);
        String second = Look.data(reef);
        Check.same("saveSnapshot() in place of it", reef.livingCount(), reef.saveSnapshot());
        reef.undo();
        Check.same("saveSnapshot() is no change", first, Look.data(reef));
        reef.restoreSnapshot();
        Check.same("the data of the later snapshot", second, Look.data(reef));
        Check.same("saveSnapshot() of an empty reef", 0, Reef.fresh().saveSnapshot());
    }

    private static void promise55RestoreSnapshot() {
        Check.begin("promise 55");
        Reef reef = Look.reef("ab#c", "dd");
        Check.fails("restoreSnapshot() at first", BAD_STATE, () -> reef.restoreSnapshot());
        Check.same("and it leaves the changes", 6, reef.undo());
        reef.setRule('s');
        reef.passTides(3);
        String saved = Look.data(reef);
        int living = reef.saveSnapshot();
        for (int i = 0; i < 3; i++) {
            reef.plant(5, 2 * i, 'q', 'd');
            reef.setRule('b');
            reef.passTides(7);
            Check.same("restoreSnapshot()", living, reef.restoreSnapshot());
            Check.same("the data", saved, Look.data(reef));
            Check.fails("undo() after it", BAD_STATE, () -> reef.undo());
        }
        reef.place(7, 7, 'a');
        Check.same("undo() of a change after it", 0, reef.undo());
        Check.same("the data after that", saved, Look.data(reef));
        reef.place(7, 7, 'a');
        Check.same("the snapshot is a copy", living, reef.restoreSnapshot());
        Check.same("the data once more", saved, Look.data(reef));
    }
}
