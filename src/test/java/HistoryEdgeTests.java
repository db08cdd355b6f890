/** "Rejections", "Changes" and "Exceptions" under "Terms" and promises 50 to 55: each boundary case of a sentence. */
public final class HistoryEdgeTests {
    private static final int UNDO_LIMIT = 8;

    private interface Call {
        Object run(Reef reef);
    }

    private HistoryEdgeTests() {
    }

    public static void main(String[] args) {
        constants();
        promises50To52();
        changes();
        promise53();
        promise54();
        promise55();
        exceptions();
        upToThe512thCall();
        Check.end();
    }

    private static void promises50To52() {
        noRejectionAtFirst();
        reasonAndDetailOfEveryReason();
        causeOfACommandAlone();
        theLatestRejection();
        rejectionsAreLeftByOtherCalls();
    }

    private static void changes() {
        changesAreTheseCalls();
        changesWithoutADifference();
        otherCallsAreNoChanges();
    }

    private static void promise53() {
        undoOfNothing();
        undoOfTheLatest8Changes();
        undoOfEachKindOfChange();
        undoOfTheLatestThatHasNotBeenUndone();
        undoLeavesInputAndOutput();
        undoLeavesRejectionAndSyntaxError();
        undoLeavesTheSnapshot();
    }

    private static void promise54() {
        saveReturnsTheLivingButtons();
        saveInPlaceOfTheEarlierOne();
        saveChangesNothingElse();
    }

    private static void promise55() {
        restoreWithoutASnapshot();
        restoreEverything();
        restoreReturnsTheLivingButtons();
        restoreKeepsTheSnapshot();
        restoreLeavesNoChangeToUndo();
        restoreLeavesInputAndOutput();
        restoreLeavesRejectionAndSyntaxError();
    }

    private static void exceptions() {
        otherExceptionsLeaveTheLatestRejection();
        callsThatThrowAreNoChanges();
    }

    private static void constants() {
        Check.begin("\"The constants\"");
        int[] found = {ButtonReef.OCCUPIED, ButtonReef.NO_BUTTON, ButtonReef.BLEACHED, ButtonReef.OUTSIDE,
            ButtonReef.SAME_RULE, ButtonReef.COMMAND_REJECTED};
        for (int i = 0; i < found.length; i++) {
            Check.same("constant " + i, i + 1, found[i]);
        }
    }

    // ---- promises 50 to 52

    private static void noRejectionAtFirst() {
        Check.begin("promises 50 to 52, \"Throws NoSuchElementException if no call was rejected\"");
        Reef reef = Look.reef("aa", "aa");
        hasNoRejection("after changes", reef);
        Look.run(reef, "tide 1;rule busy");
        reef.undo();
        reef.saveSnapshot();
        reef.restoreSnapshot();
        hasNoRejection("after commands, undo and the snapshot", reef);
        Check.outcome(() -> reef.place(8, 0, 'a'));
        Check.outcome(() -> reef.place(0, 0, 'e'));
        Check.outcome(() -> reef.undo());
        Check.outcome(() -> reef.colourAt(7, 7));
        Check.outcome(() -> Look.run(reef, "tide 0"));
        Check.outcome(() -> Look.run(reef, "tide"));
        hasNoRejection("after other exceptions", reef);
    }

    private static void hasNoRejection(String when, Reef reef) {
        Edges.fails("rejectionReason() " + when, Edges.NO_ELEMENT, reef, reef::rejectionReason);
        Edges.fails("rejectionDetail() " + when, Edges.NO_ELEMENT, reef, reef::rejectionDetail);
        Edges.fails("causeReason() " + when, Edges.NO_ELEMENT, reef, reef::causeReason);
    }

    private static void rejected(int reason, int detail, Object cause, Reef reef) {
        Check.same("rejectionReason()", reason, reef.rejectionReason());
        Check.same("rejectionDetail()", detail, reef.rejectionDetail());
        Check.same("causeReason()", cause, Check.outcome(reef::causeReason));
    }

    private static final String NO_CAUSE = "throws java.util.NoSuchElementException";

    private static void reasonAndDetailOfEveryReason() {
        Check.begin("promises 50 and 51, \"one of the constants\", with its detail");
        Reef reef = Look.reef("a#", "#");
        Check.outcome(() -> reef.place(1, 0, 'a'));
        rejected(1, 8, NO_CAUSE, reef);
        Check.outcome(() -> reef.plant(0, 0, 'x', 'a'));
        rejected(1, 1, NO_CAUSE, reef);
        Check.outcome(() -> reef.remove(7, 6));
        rejected(2, 62, NO_CAUSE, reef);
        Check.outcome(() -> reef.bleach(6, 7));
        rejected(2, 55, NO_CAUSE, reef);
        Check.outcome(() -> reef.recolour(1, 1, 'a'));
        rejected(2, 9, NO_CAUSE, reef);
        Check.outcome(() -> reef.bleach(0, 1));
        rejected(3, 2, NO_CAUSE, reef);
        Check.outcome(() -> reef.recolour(1, 0, 'a'));
        rejected(3, 2, NO_CAUSE, reef);
        Check.outcome(() -> reef.plant(7, 1, 'g', 'a'));
        rejected(4, 5, NO_CAUSE, reef);
        Check.outcome(() -> reef.plant(7, 6, 'l', 'a'));
        rejected(4, 3, NO_CAUSE, reef);
        Check.outcome(() -> reef.setRule('c'));
        rejected(5, 0, NO_CAUSE, reef);
        Check.outcome(() -> Look.run(reef, "rule slow;tide 1;remove 66"));
        rejected(6, 2, 2, reef);
        Check.outcome(() -> Look.run(reef, "rule calm"));
        rejected(6, 0, 5, reef);
    }

    private static void causeOfACommandAlone() {
        Check.begin("promise 52, \"or the latest rejection has another reason than COMMAND_REJECTED\"");
        Reef reef = Look.reef("a");
        Check.outcome(() -> reef.place(0, 0, 'a'));
        Edges.fails("causeReason() of a call", Edges.NO_ELEMENT, reef, reef::causeReason);
        Check.outcome(() -> Look.run(reef, "place 00 a"));
        Check.same("causeReason() of a command", 1, reef.causeReason());
        Check.outcome(() -> reef.remove(7, 7));
        Edges.fails("causeReason() of a later call", Edges.NO_ELEMENT, reef, reef::causeReason);
        Check.same("rejectionReason() of it", 2, reef.rejectionReason());
        Check.outcome(() -> Look.run(reef, "remove 77"));
        Check.same("causeReason() of a later command", 2, reef.causeReason());
    }

    private static void theLatestRejection() {
        Check.begin("promises 50 and 51, \"of the latest rejection\"");
        Reef reef = Look.reef("a");
        Check.outcome(() -> reef.remove(0, 1));
        Check.outcome(() -> reef.remove(0, 2));
        rejected(2, 2, NO_CAUSE, reef);
        Check.outcome(() -> reef.remove(0, 1));
        rejected(2, 1, NO_CAUSE, reef);
        Check.outcome(() -> reef.setRule('c'));
        rejected(5, 0, NO_CAUSE, reef);
        Edges.leaves("rejectionReason()", reef, reef::rejectionReason);
        Edges.leaves("rejectionDetail()", reef, reef::rejectionDetail);
        Edges.leaves("causeReason()", reef, reef::causeReason);
    }

    private static void rejectionsAreLeftByOtherCalls() {
        Check.begin("promises 50 to 52, rejections are not taken back");
        Reef reef = Look.reef("a");
        reef.saveSnapshot();
        Check.outcome(() -> Look.run(reef, "tide 1;rule calm"));
        reef.passTides(1);
        reef.setRule('b');
        rejected(6, 1, 5, reef);
        reef.undo();
        rejected(6, 1, 5, reef);
        reef.restoreSnapshot();
        rejected(6, 1, 5, reef);
        Look.run(reef, "tide 1");
        rejected(6, 1, 5, reef);
        Check.outcome(() -> Look.run(reef, "tide 1;tide 21"));
        Check.outcome(() -> Look.run(reef, "tide 1;tide x"));
        rejected(6, 1, 5, reef);
    }

    // ---- changes

    /** One change of each kind that an empty reef of the calm rule takes in this order. */
    private static Call[] eightChanges() {
        return new Call[] {reef -> reef.place(0, 0, 'a'), reef -> reef.plant(2, 2, 'l', 'b'),
            reef -> reef.recolour(2, 2, 'c'), reef -> reef.bleach(2, 4), reef -> reef.remove(0, 0),
            reef -> reef.setRule('s'), reef -> reef.passTides(1), reef -> Look.run(reef, "tide 1;rule busy")};
    }

    private static void changesAreTheseCalls() {
        Check.begin("\"A change is a call of place, remove, bleach, recolour, plant, setRule, passTides or execute\"");
        Reef reef = Reef.fresh();
        Call[] calls = eightChanges();
        for (int i = 0; i < calls.length; i++) {
            calls[i].run(reef);
            Check.same("undo() after " + (i + 1) + " changes", i, reef.twin().undo());
        }
    }

    private static void changesWithoutADifference() {
        Check.begin("\"that returns a value, also if nothing is different after it\"");
        Call[] calls = {reef -> reef.recolour(0, 0, 'a'), reef -> Look.run(reef, "colour 00 a"),
            reef -> Look.run(reef, "rule busy;rule calm"), reef -> Look.run(reef, "colour 00 b;colour 00 a")};
        for (Call call : calls) {
            Reef reef = Look.reef("a");
            String before = Look.data(reef);
            call.run(reef);
            Check.same("the data", before, Look.data(reef));
            Check.same("undo() of it", 1, reef.undo());
            Check.same("the data after undo", before, Look.data(reef));
            Check.same("undo() of place", 0, reef.undo());
            Check.same("isEmpty(0, 0)", true, reef.isEmpty(0, 0));
        }
        Reef still = Reef.fresh();
        still.passTides(1);
        Check.same("undo() of a tide over an empty reef", 0, still.undo());
    }

    private static void otherCallsAreNoChanges() {
        Check.begin("\"A change is ..\", other calls are none");
        Call[] calls = {reef -> reef.isEmpty(0, 0), reef -> reef.isLiving(0, 0), reef -> reef.isBleached(0, 0),
            reef -> reef.colourAt(0, 0), reef -> reef.ageAt(0, 0), reef -> reef.neighbours(0, 0),
            reef -> reef.neighboursOf(0, 0, 'a'), reef -> reef.birthColour(2, 2), Reef::livingCount, Reef::bleachedCount,
            reef -> reef.countOf('a'), Reef::islandCount, Reef::islandCountByMerging, reef -> reef.islandSize(0, 0),
            Reef::largestIsland, reef -> reef.islandsOf('a'), reef -> reef.isJoined(0, 0, 7, 7),
            reef -> reef.wouldLive(0, 0), reef -> reef.livingAfter(20), Reef::isStill, Reef::tidesUntilStill, Reef::rule,
            reef -> reef.isBirth(3), reef -> reef.isSurvival(3), Reef::tideCount, Reef::placedCount, Reef::removedCount,
            Reef::bornCount, Reef::bleachings, Reef::washedCount, reef -> reef.rowByLiving(0),
            reef -> reef.colourByCount(0), Reef::meanAge, Reef::livingShare, Reef::isConsistent,
            reef -> reef.outputAt(0), Reef::syntaxErrorOffset, Reef::rejectionReason, Reef::rejectionDetail,
            Reef::causeReason};
        for (int i = 0; i < calls.length; i++) {
            Reef reef = Edges.lived();
            Call call = calls[i];
            String before = Look.all(reef);
            Check.same("question " + i + " throws", false, Check.outcome(() -> call.run(reef)) instanceof String);
            Check.same("all after question " + i, before, Look.all(reef));
        }
        Reef reef = Edges.lived();
        String history = Look.history(reef);
        reef.writeRow(0);
        reef.writeRule();
        reef.appendInput('e');
        reef.saveSnapshot();
        Check.same("the history after writeRow, writeRule, appendInput and saveSnapshot", history, Look.history(reef));
    }

    // ---- promise 53

    private static void undoOfNothing() {
        Check.begin("promise 53, \"Throws IllegalStateException if there is none\"");
        Reef reef = Reef.fresh();
        Edges.fails("undo() at first", Edges.BAD_STATE, reef, reef::undo);
        reef.place(0, 0, 'a');
        Check.same("undo() of the only change", 0, reef.undo());
        Edges.fails("undo() once more", Edges.BAD_STATE, reef, reef::undo);
        Reef lived = Edges.lived();
        for (int left = UNDO_LIMIT - 1; left >= 0; left--) {
            Check.same("undo() of a reef that has lived", left, lived.undo());
        }
        Edges.fails("undo() of a ninth change", Edges.BAD_STATE, lived, lived::undo);
    }

    private static void undoOfTheLatest8Changes() {
        Check.begin("promise 53, \"The latest 8 changes can be undone\"");
        for (int changes = 1; changes <= 26; changes++) {
            Reef reef = Reef.fresh();
            String[] data = new String[changes + 1];
            for (int i = 0; i < changes; i++) {
                data[i] = Look.data(reef);
                reef.place(i / 8, i % 8, Edges.colourOf(i));
            }
            int undoable = Math.min(changes, UNDO_LIMIT);
            for (int i = 1; i <= undoable; i++) {
                Check.same("undo() number " + i + " of " + changes, undoable - i, reef.undo());
                Check.same("the data after it", data[changes - i], Look.data(reef));
            }
            Edges.fails("one more after " + changes, Edges.BAD_STATE, reef, reef::undo);
        }
    }

    private static void undoOfEachKindOfChange() {
        Check.begin("promise 53, \"Undo and the snapshot cover everything but ..\"");
        Reef reef = Reef.fresh();
        Call[] calls = eightChanges();
        String[] data = new String[calls.length];
        for (int i = 0; i < calls.length; i++) {
            data[i] = Look.data(reef);
            calls[i].run(reef);
            Check.same("change " + i + " makes a difference", false, data[i].equals(Look.data(reef)));
        }
        for (int i = calls.length - 1; i >= 0; i--) {
            Check.same("undo() of change " + i, i, reef.undo());
            Check.same("the data ahead of change " + i, data[i], Look.data(reef));
        }
    }

    private static void undoOfTheLatestThatHasNotBeenUndone() {
        Check.begin("promise 53, \"the latest change that has not been undone\"");
        Reef reef = Look.reef("abc");
        Check.same("undo() of c", 2, reef.undo());
        Check.same("undo() of b", 1, reef.undo());
        reef.place(7, 7, 'd');
        Check.same("row 0", "a.......", Look.row(reef, 0));
        Check.same("undo() of d", 1, reef.undo());
        Check.same("row 7", "........", Look.row(reef, 7));
        Check.same("undo() of a", 0, reef.undo());
        Check.same("the first row", "........", Look.row(reef, 0));
        Edges.fails("undo() of none", Edges.BAD_STATE, reef, reef::undo);
        Reef full = Edges.full('a');
        full.undo();
        full.undo();
        full.undo();
        Check.same("a change after three undone ones", 62, full.place(7, 5, 'd'));
        Check.same("another", 63, full.place(7, 6, 'd'));
        for (int left = 6; left >= 0; left--) {
            Check.same("undo()", left, full.undo());
        }
        Check.same("livingCount()", 56, full.livingCount());
        Edges.fails("undo() of no more", Edges.BAD_STATE, full, full::undo);
    }

    private static void undoLeavesInputAndOutput() {
        Check.begin("promise 53, \"everything but the input, the output\"");
        Reef reef = Edges.lived();
        String written = Look.written(reef);
        int length = reef.twin().appendInput('e');
        for (int i = 0; i < UNDO_LIMIT; i++) {
            reef.undo();
            Check.same("the output", written, Look.written(reef));
            Check.same("the length of the input", length, reef.twin().appendInput('e'));
        }
        Check.same("what was typed ahead of undo", 2, Look.run(reef, "e 3"));
        Reef unwritten = Look.reef("ab");
        unwritten.writeRow(0);
        unwritten.undo();
        Check.same("an output later than the change", "output ab......", Look.written(unwritten));
        Check.same("a run of commands", 1, Look.run(unwritten, "tide 1"));
        unwritten.undo();
        Edges.isEmptyInput("after the commands are undone", unwritten);
    }

    private static void undoLeavesRejectionAndSyntaxError() {
        Check.begin("promise 53, \"everything but .. the latest rejection and the latest syntax error\"");
        Reef reef = Edges.lived();
        String rejection = Look.rejection(reef);
        String offset = Look.offset(reef);
        for (int i = 0; i < UNDO_LIMIT; i++) {
            reef.undo();
            Check.same("the rejection", rejection, Look.rejection(reef));
            Check.same("the syntax error", offset, Look.offset(reef));
        }
    }

    private static void undoLeavesTheSnapshot() {
        Check.begin("promise 53, the snapshot is kept");
        Reef reef = Look.reef("ab");
        reef.saveSnapshot();
        String saved = Look.data(reef);
        reef.undo();
        reef.undo();
        Check.same("restoreSnapshot() after undo", 2, reef.restoreSnapshot());
        Check.same("the data", saved, Look.data(reef));
    }

    // ---- promise 54

    private static void saveReturnsTheLivingButtons() {
        Check.begin("promise 54, \"Returns the number of living buttons\"");
        Check.same("of an empty reef", 0, Reef.fresh().saveSnapshot());
        Check.same("of one button", 1, Look.reef("a").saveSnapshot());
        Check.same("of bleached buttons", 0, Edges.full('#').saveSnapshot());
        Check.same("of a full reef", 64, Edges.full('d').saveSnapshot());
        Check.same("of two and two bleached ones", 2, Look.reef("a##b").saveSnapshot());
    }

    private static void saveInPlaceOfTheEarlierOne() {
        Check.begin("promise 54, \"in place of an earlier snapshot\"");
        Reef reef = Reef.fresh();
        reef.saveSnapshot();
        reef.place(0, 0, 'a');
        Check.same("the second", 1, reef.saveSnapshot());
        reef.place(0, 1, 'a');
        Check.same("the third", 2, reef.saveSnapshot());
        String third = Look.data(reef);
        reef.remove(0, 0);
        Check.same("restoreSnapshot()", 2, reef.restoreSnapshot());
        Check.same("the data", third, Look.data(reef));
        reef.remove(0, 0);
        Check.same("one after restoreSnapshot()", 1, reef.saveSnapshot());
        reef.remove(0, 1);
        Check.same("restoreSnapshot() of that", 1, reef.restoreSnapshot());
    }

    private static void saveChangesNothingElse() {
        Check.begin("promise 54, the snapshot alone is different");
        Reef reef = Edges.lived();
        String before = Look.data(reef) + Look.history(reef) + Look.written(reef) + Look.input(reef)
            + Look.rejection(reef) + Look.offset(reef);
        reef.saveSnapshot();
        Check.same("all but the snapshot", before, Look.data(reef) + Look.history(reef) + Look.written(reef)
            + Look.input(reef) + Look.rejection(reef) + Look.offset(reef));
        Check.same("the snapshot", "restoreSnapshot " + reef.livingCount() + " " + Look.data(reef), Look.saved(reef));
    }

    // ---- promise 55

    private static void restoreWithoutASnapshot() {
        Check.begin("promise 55, \"Throws IllegalStateException if there is no snapshot\"");
        Reef empty = Reef.fresh();
        Edges.fails("of a new reef", Edges.BAD_STATE, empty, empty::restoreSnapshot);
        Reef reef = Look.reef("ab", "cd");
        Edges.fails("of a reef with changes", Edges.BAD_STATE, reef, reef::restoreSnapshot);
        Check.same("its changes can still be undone", 3, reef.undo());
    }

    private static void restoreEverything() {
        Check.begin("promise 55, \"Undo and the snapshot cover everything but ..\"");
        Reef reef = Edges.lived();
        String saved = Look.data(reef);
        reef.saveSnapshot();
        reef.setRule('c');
        reef.plant(1, 4, 'q', 'd');
        reef.remove(0, 0);
        reef.bleach(7, 0);
        reef.passTides(20);
        Check.same("the data are different", false, saved.equals(Look.data(reef)));
        reef.restoreSnapshot();
        Check.same("the data", saved, Look.data(reef));
        Reef empty = Reef.fresh();
        String nothing = Look.data(empty);
        empty.saveSnapshot();
        empty.setRule('b');
        empty.plant(0, 0, 'g', 'a');
        empty.passTides(7);
        empty.restoreSnapshot();
        Check.same("the data of an empty reef", nothing, Look.data(empty));
    }

    private static void restoreReturnsTheLivingButtons() {
        Check.begin("promise 55, \"Returns the number of living buttons\"");
        for (String row : new String[] {"", "#", "a", "ab#", "abcdabcd"}) {
            Reef reef = Look.reef(row);
            int living = reef.saveSnapshot();
            Check.same("restoreSnapshot() at once", living, reef.restoreSnapshot());
            reef.plant(5, 5, 'x', 'a');
            Check.same("restoreSnapshot() after plant", living, reef.restoreSnapshot());
            Check.same("livingCount()", living, reef.livingCount());
        }
        Reef full = Edges.full('b');
        full.saveSnapshot();
        full.remove(0, 0);
        Check.same("restoreSnapshot() of a full reef", 64, full.restoreSnapshot());
    }

    private static void restoreKeepsTheSnapshot() {
        Check.begin("promise 55, \"the snapshot, which is kept\"");
        Reef reef = Look.reef("ab", "cd");
        reef.saveSnapshot();
        String saved = Look.data(reef);
        for (int i = 0; i < 4; i++) {
            reef.passTides(3);
            reef.remove(0, 0);
            reef.setRule('s');
            Check.same("restoreSnapshot() number " + i, 4, reef.restoreSnapshot());
            Check.same("the data", saved, Look.data(reef));
        }
        Check.same("restoreSnapshot() twice in a row", 4, reef.restoreSnapshot());
        Check.same("the data", saved, Look.data(reef));
    }

    private static void restoreLeavesNoChangeToUndo() {
        Check.begin("promise 55, \"No change can be undone after the call\"");
        Reef reef = Edges.lived();
        reef.restoreSnapshot();
        Edges.fails("undo() after restoreSnapshot()", Edges.BAD_STATE, reef, reef::undo);
        reef.place(0, 0, 'a');
        Check.same("undo() of a change after it", 0, reef.undo());
        Edges.fails("undo() of restoreSnapshot() itself", Edges.BAD_STATE, reef, reef::undo);
        Reef atOnce = Look.reef("a");
        atOnce.saveSnapshot();
        atOnce.restoreSnapshot();
        Edges.fails("undo() though nothing is different", Edges.BAD_STATE, atOnce, atOnce::undo);
        for (int changes = 1; changes <= 10; changes++) {
            atOnce.place(4 + changes / 8, changes % 8, 'b');
            Check.same("undo() after " + changes + " more", Math.min(changes, UNDO_LIMIT) - 1, atOnce.twin().undo());
        }
    }

    private static void restoreLeavesInputAndOutput() {
        Check.begin("promise 55, \"everything but the input, the output\"");
        Reef reef = Edges.lived();
        String written = Look.written(reef);
        reef.restoreSnapshot();
        Check.same("the output", written, Look.written(reef));
        Check.same("what was typed ahead of restoreSnapshot()", 2, Look.run(reef, "e 3"));
        Reef unwritten = Look.reef("ab");
        unwritten.saveSnapshot();
        unwritten.writeRow(0);
        Look.type(unwritten, "tide");
        unwritten.restoreSnapshot();
        Check.same("an output later than the snapshot", "output ab......", Look.written(unwritten));
        Check.same("an input later than the snapshot", 1, Look.run(unwritten, " 3"));
    }

    private static void restoreLeavesRejectionAndSyntaxError() {
        Check.begin("promise 55, \"everything but .. the latest rejection and the latest syntax error\"");
        Reef reef = Edges.lived();
        String latest = Look.rejection(reef) + Look.offset(reef);
        reef.restoreSnapshot();
        Check.same("the latest", latest, Look.rejection(reef) + Look.offset(reef));
        Reef early = Look.reef("a");
        early.saveSnapshot();
        Check.outcome(() -> early.place(0, 0, 'a'));
        Check.outcome(() -> Look.run(early, "tide x"));
        latest = Look.rejection(early) + Look.offset(early);
        early.restoreSnapshot();
        Check.same("the latest, later than the snapshot", latest, Look.rejection(early) + Look.offset(early));
    }

    // ---- exceptions

    private static void otherExceptionsLeaveTheLatestRejection() {
        Check.begin("\"an exception other than UnsupportedOperationException does not change the latest rejection\"");
        Call[] calls = {reef -> reef.place(8, 0, 'a'), reef -> reef.place(0, 0, 'e'), reef -> reef.remove(0, 8),
            reef -> reef.bleach(-1, 0), reef -> reef.recolour(0, -1, 'a'), reef -> reef.recolour(7, 7, 'e'),
            reef -> reef.plant(8, 8, 'q', 'a'), reef -> reef.plant(7, 7, 'z', 'a'), reef -> reef.plant(0, 0, 'q', 'e'),
            reef -> reef.setRule('x'), reef -> reef.colourAt(7, 7), reef -> reef.ageAt(7, 7),
            reef -> reef.birthColour(0, 3), reef -> reef.countOf('e'), reef -> reef.islandSize(7, 7),
            reef -> reef.islandsOf('e'), reef -> reef.isJoined(0, 0, 0, 8), reef -> reef.passTides(0),
            reef -> reef.wouldLive(8, 8), reef -> reef.livingAfter(-1), reef -> reef.isBirth(9),
            reef -> reef.isSurvival(-1), reef -> reef.rowByLiving(8), reef -> reef.colourByCount(4),
            reef -> reef.writeRow(8), reef -> reef.outputAt(14), reef -> reef.appendInput((char) 127)};
        Reef reef = Edges.lived();
        for (int i = 0; i < calls.length; i++) {
            Call call = calls[i];
            String before = Look.all(reef);
            Check.same("call " + i + " throws", true, Check.outcome(() -> call.run(reef)) instanceof String);
            Check.same("all after call " + i, before, Look.all(reef));
        }
        String rejection = Look.rejection(reef);
        Check.fails("a syntax error", Edges.BAD_ARGUMENT, reef::execute);
        Check.same("the rejection after a syntax error", rejection, Look.rejection(reef));
        Check.fails("a number out of range", Edges.BAD_STATE, () -> Look.run(reef, "rule busy;tide 21"));
        Check.same("the rejection after a number out of range", rejection, Look.rejection(reef));
    }

    private static void callsThatThrowAreNoChanges() {
        Check.begin("\"A call that throws an exception changes nothing, except where this is stated\"");
        String[] texts = {"", "tide", "tide 0", "place 80 a", "rule slow", "tide 1;rule slow", "tide 1;remove 88"};
        for (String text : texts) {
            Reef reef = Edges.lived();
            Check.outcome(reef::execute);
            String before = Look.data(reef) + Look.history(reef) + Look.saved(reef) + Look.written(reef);
            Check.same("'" + text + "' throws", true, Check.outcome(() -> Look.run(reef, text)) instanceof String);
            Check.same("all but input, rejection and syntax error", before,
                Look.data(reef) + Look.history(reef) + Look.saved(reef) + Look.written(reef));
            Edges.isEmptyInput("after '" + text + "'", reef);
        }
    }

    // ---- the greatest number of calls

    private static void upToThe512thCall() {
        Check.begin("\"An object is used for at most 512 calls after it has been made\"");
        Reef tides = Reef.fresh();
        for (int call = 1; call <= 510; call++) {
            tides.passTides(20);
        }
        Check.fails("call 511", Edges.REJECTED, () -> tides.setRule('c'));
        Check.same("call 512", 10200, tides.rejectionDetail());
        Reef placed = Reef.fresh();
        for (int call = 1; call <= 511; call += 2) {
            Check.same("call " + call, 1, placed.place(call % 8, call / 8 % 8, 'a'));
            Check.same("call " + (call + 1), call < 511 ? 0 : 256,
                call < 511 ? placed.remove(call % 8, call / 8 % 8) : placed.placedCount());
        }
        Reef undone = Look.reef("a");
        for (int call = 2; call <= 503; call++) {
            undone.recolour(0, 0, Look.COLOURS.charAt(call % 4));
        }
        for (int left = UNDO_LIMIT - 1; left >= 0; left--) {
            Check.same("the last of the calls but " + left, left, undone.undo());
        }
        Check.same("call 512", 'd', undone.colourAt(0, 0));
    }
}
