/** "Commands" under "Terms" and promises 47 to 49: each boundary case that a sentence of them names. */
public final class CommandEdgeTests {
    private static final int LIMIT = 60;
    private static final String[] EVERY_COMMAND = {"place 70 a", "remove 00", "bleach 00", "colour 00 d", "plant 40 gb",
        "rule busy", "tide 1"};

    private CommandEdgeTests() {
    }

    public static void main(String[] args) {
        promise47();
        commandsDoWhatTheirMethodsDo();
        oneOrMoreCommands();
        promise48();
        promise49();
        Check.end();
    }

    private static void promise47() {
        appendTheLeastAndTheGreatestCode();
        appendACodeOutOfRange();
        appendReturnsTheLength();
        appendToAFullInput();
        appendOutOfRangeToAFullInput();
    }

    private static void promise48() {
        executeEmptiesTheInput();
        executeReturnsTheNumberOfCommands();
        executeAllOrNone();
        executeWithACellOutOfRange();
        executeWithANumberOutOfRange();
        executeRejected();
        executeRejectedAtItsPlace();
        executeThrowsOfTheFirstCommandThatFails();
        executeThrowsOfASyntaxErrorFirst();
        executeMeetsWhatEarlierCommandsHaveDone();
    }

    private static void promise49() {
        noSyntaxErrorAtFirst();
        offsetOfEveryFirstWrongCharacter();
        offsetOfAnInputThatEndsTooEarly();
        offsetOfLettersThatAreNoColourOrPattern();
        offsetsAtTheEndOfAFullInput();
        offsetOfTheLatestSyntaxError();
    }

    // ---- promise 47

    private static void appendTheLeastAndTheGreatestCode() {
        Check.begin("promise 47, \"with a code from 32 to 126\"");
        for (char code = 32; code <= 126; code++) {
            Check.same("appendInput of " + (int) code, 1, Reef.fresh().appendInput(code));
        }
        Reef reef = Edges.lived();
        String before = Look.lasting(reef) + Look.rejection(reef);
        Check.same("appendInput to an input", 14, reef.appendInput('e'));
        Check.same("all but the input", before, Look.lasting(reef) + Look.rejection(reef));
    }

    private static void appendACodeOutOfRange() {
        Check.begin("promise 47, \"Throws IllegalArgumentException if the code is out of range\"");
        char[] wrong = {31, 127, 30, 128, 0, 9, 10, 13, 255, 32 + 256, 126 + 256, '\ud800', '\uffff'};
        Edges.refusesSigns("appendInput", Edges.lived(), wrong, (reef, sign) -> reef.appendInput(sign));
        Edges.refusesSigns("appendInput to an empty input", Reef.fresh(), wrong, (reef, sign) -> reef.appendInput(sign));
    }

    private static void appendReturnsTheLength() {
        Check.begin("promise 47, \"Returns the length of the input after the call\"");
        Reef reef = Reef.fresh();
        for (int length = 1; length <= LIMIT; length++) {
            Check.same("appendInput number " + length, length, reef.appendInput(length % 2 == 0 ? ' ' : '~'));
        }
    }

    private static void appendToAFullInput() {
        Check.begin("promise 47, \"Throws IllegalStateException if the input has 60 characters\"");
        String text = "tide 1;tide 2;tide 3;tide 4;tide 5;tide 6;tide 7;rule busy";
        Reef reef = Reef.fresh();
        Check.same("the length of 59", 59, Look.type(reef, text + ";"));
        Check.same("the character number 60", 60, reef.appendInput('x'));
        Edges.fails("the character number 61", Edges.BAD_STATE, reef, () -> reef.appendInput('x'));
        Edges.fails("one more", Edges.BAD_STATE, reef, () -> reef.appendInput(' '));
        Edges.fails("and the greatest", Edges.BAD_STATE, reef, () -> reef.appendInput('~'));
        Check.fails("execute", Edges.BAD_ARGUMENT, reef::execute);
        Check.same("the offset", 59, reef.syntaxErrorOffset());
        Check.same("appendInput after execute", 1, reef.appendInput('x'));
    }

    private static void appendOutOfRangeToAFullInput() {
        Check.begin("promise 47, \"the one that is listed first is thrown\"");
        Reef reef = Reef.fresh();
        Look.type(reef, "x".repeat(LIMIT));
        Edges.refusesSigns("appendInput to a full input", reef, new char[] {31, 127, 0, '\uffff'},
            (full, sign) -> full.appendInput(sign));
    }

    // ---- commands

    private static void commandsDoWhatTheirMethodsDo() {
        Check.begin("\"Commands\", what each of them does");
        sameAs("place 00 a", reef -> reef.place(0, 0, 'a'));
        sameAs("place 07 b", reef -> reef.place(0, 7, 'b'));
        sameAs("place 70 c", reef -> reef.place(7, 0, 'c'));
        sameAs("place 77 d", reef -> reef.place(7, 7, 'd'));
        sameAs("remove 33", reef -> reef.remove(3, 3));
        sameAs("remove 35", reef -> reef.remove(3, 5));
        sameAs("bleach 34", reef -> reef.bleach(3, 4));
        for (char colour : Look.COLOURS.toCharArray()) {
            sameAs("colour 43 " + colour, reef -> reef.recolour(4, 3, colour));
            for (char pattern : "qlxg".toCharArray()) {
                sameAs("plant 00 " + pattern + colour, reef -> reef.plant(0, 0, pattern, colour));
            }
        }
        sameAs("plant 66 qa", reef -> reef.plant(6, 6, 'q', 'a'));
        sameAs("plant 75 la", reef -> reef.plant(7, 5, 'l', 'a'));
        sameAs("plant 55 xa", reef -> reef.plant(5, 5, 'x', 'a'));
        sameAs("plant 55 ga", reef -> reef.plant(5, 5, 'g', 'a'));
        sameAs("rule busy", reef -> reef.setRule('b'));
        sameAs("rule calm", reef -> reef.setRule('c'));
        for (int tides = 1; tides <= 20; tides++) {
            int number = tides;
            sameAs("tide " + number, reef -> reef.passTides(number));
            sameAs(number < 10 ? "tide 0" + number : "tide " + number, reef -> reef.passTides(number));
        }
    }

    private interface Change {
        Object run(Reef reef);
    }

    private static void sameAs(String command, Change change) {
        Reef reef = Look.reef("", "", "", "...ab#", "...cd");
        reef.setRule('s');
        reef.passTides(1);
        Reef other = reef.twin();
        change.run(other);
        Check.same(command, 1, Look.run(reef, command));
        Check.same("all after " + command, Look.all(other), Look.all(reef));
    }

    private static void oneOrMoreCommands() {
        Check.begin("\"one or more commands, with \";\" between two of them\"");
        Reef empty = Reef.fresh();
        hasSyntaxError(0, "", empty);
        for (String command : EVERY_COMMAND) {
            int length = command.length();
            hasSyntaxError(0, ";" + command, Look.reef("a"));
            hasSyntaxError(length + 1, command + ";", Look.reef("a"));
            hasSyntaxError(length + 1, command + ";;tide 1", Look.reef("a"));
            hasSyntaxError(length, command + " ;tide 1", Look.reef("a"));
            hasSyntaxError(length + 1, command + "; tide 1", Look.reef("a"));
            hasSyntaxError(length, command + " tide 1", Look.reef("a"));
            hasSyntaxError(length, command + ",tide 1", Look.reef("a"));
            hasSyntaxError(length, command + "tide 1", Look.reef("a"));
            hasSyntaxError(length, command + " ", Look.reef("a"));
            hasSyntaxError(0, " " + command, Look.reef("a"));
            Check.same(command + " and another", 2, Look.run(Look.reef("a"), command + ";tide 2"));
            Check.same(command + " behind another", 2, Look.run(Look.reef("a"), "colour 00 a;" + command));
        }
    }

    // ---- promise 48

    private static void executeEmptiesTheInput() {
        Check.begin("promise 48, \"The input is empty after the call, also if an exception is thrown\"");
        Reef reef = Look.reef("aa", "aa");
        Check.same("commands", 2, Look.run(reef, "tide 1;rule busy"));
        Edges.isEmptyInput("after commands", reef);
        Check.fails("a syntax error", Edges.BAD_ARGUMENT, () -> Look.run(reef, "tide 1;rule"));
        Edges.isEmptyInput("after a syntax error", reef);
        Check.fails("a cell out of range", Edges.BAD_STATE, () -> Look.run(reef, "tide 1;remove 08"));
        Edges.isEmptyInput("after a cell out of range", reef);
        Check.fails("a number out of range", Edges.BAD_STATE, () -> Look.run(reef, "tide 1;tide 21"));
        Edges.isEmptyInput("after a number out of range", reef);
        Check.fails("a rejected command", Edges.REJECTED, () -> Look.run(reef, "tide 1;rule busy"));
        Edges.isEmptyInput("after a rejected command", reef);
        Check.fails("an empty input", Edges.BAD_ARGUMENT, reef::execute);
        Edges.isEmptyInput("after an empty input", reef);
        Check.same("a later input is taken by itself", 1, Look.run(reef, "tide 1"));
    }

    private static void executeReturnsTheNumberOfCommands() {
        Check.begin("promise 48, \"Returns the number of commands\"");
        StringBuilder text = new StringBuilder("tide 1");
        for (int number = 1; number <= 8; number++) {
            Reef reef = Reef.fresh();
            Check.same(text.toString(), number, Look.run(reef, text.toString()));
            Check.same("tideCount() after " + text, number, reef.tideCount());
            Check.same("undo() of all of them at once", 0, reef.undo());
            Check.same("tideCount() then", 0, reef.tideCount());
            text.append(";tide 1");
        }
        Reef full = Look.reef("a");
        String sixty = "tide 10;tide 20;tide 10;tide 20;tide 1;rule busy;tide 2;tide";
        Check.same("the length", LIMIT, sixty.length());
        hasSyntaxError(60, sixty, full);
        Reef sound = Look.reef("a");
        String all = "place 77 a;remove 77;rule busy;plant 40 gb;bleach 00;tide 10";
        Check.same("the length", LIMIT, all.length());
        Check.same("a full input", 6, Look.run(sound, all));
        Check.same("tideCount()", 10, sound.tideCount());
    }

    private static void executeAllOrNone() {
        Check.begin("promise 48, \"Executes the commands of the input, all of them or none\"");
        for (String command : EVERY_COMMAND) {
            for (String end : new String[] {";", ";rule", ";place 80 a", ";tide 0", ";remove 77"}) {
                Reef reef = Look.reef("a");
                String before = Look.data(reef) + Look.history(reef) + Look.saved(reef) + Look.written(reef);
                Object outcome = Check.outcome(() -> Look.run(reef, command + end));
                Check.same(command + end + " throws", true, outcome instanceof String);
                Check.same("what " + command + end + " leaves", before,
                    Look.data(reef) + Look.history(reef) + Look.saved(reef) + Look.written(reef));
            }
        }
    }

    private static void executeWithACellOutOfRange() {
        Check.begin("promise 48, \"has a cell .. that its method does not accept\"");
        String[] starts = {"place ", "remove ", "bleach ", "colour ", "plant "};
        String[] ends = {" a", "", "", " a", " qa"};
        for (int i = 0; i < starts.length; i++) {
            for (String cell : new String[] {"08", "80", "78", "87", "09", "90", "88", "99"}) {
                Reef reef = Edges.full('a');
                failsAndLeaves(reef, starts[i] + cell + ends[i]);
            }
        }
        Reef lived = Edges.lived();
        Check.fails("behind commands that are right", Edges.BAD_STATE, () -> Look.run(lived, "e 3;place 80 a"));
        Check.same("the latest rejection", "reason 6 detail 1 cause 5", Look.rejection(lived));
    }

    private static void executeWithANumberOutOfRange() {
        Check.begin("promise 48, \"has .. a number that its method does not accept\"");
        for (String number : new String[] {"0", "00", "21", "22", "30", "99"}) {
            failsAndLeaves(Look.reef("a"), "tide " + number);
            failsAndLeaves(Look.reef("a"), "tide 20;tide " + number);
        }
        Check.same("the least number", 1, Look.run(Look.reef("a"), "tide 1"));
        Check.same("the least number with two digits", 1, Look.run(Look.reef("a"), "tide 01"));
        Check.same("the greatest number", 1, Look.run(Look.reef("a"), "tide 20"));
    }

    /** An exception but UnsupportedOperationException leaves the latest rejection; execute leaves an empty input. */
    private static void failsAndLeaves(Reef reef, String text) {
        Check.outcome(() -> reef.setRule('c'));
        String before = Look.all(reef);
        Check.fails(text, Edges.BAD_STATE, () -> Look.run(reef, text));
        Check.same("all after " + text, before, Look.all(reef));
    }

    private static void executeRejected() {
        Check.begin("promise 48, COMMAND_REJECTED, with each reason as its cause");
        Edges.rejectsCommand("place 00 b", Look.reef("a#"), 0, ButtonReef.OCCUPIED);
        Edges.rejectsCommand("place 01 b", Look.reef("a#"), 0, ButtonReef.OCCUPIED);
        Edges.rejectsCommand("remove 77", Look.reef("a#"), 0, ButtonReef.NO_BUTTON);
        Edges.rejectsCommand("bleach 77", Look.reef("a#"), 0, ButtonReef.NO_BUTTON);
        Edges.rejectsCommand("bleach 01", Look.reef("a#"), 0, ButtonReef.BLEACHED);
        Edges.rejectsCommand("colour 77 a", Look.reef("a#"), 0, ButtonReef.NO_BUTTON);
        Edges.rejectsCommand("colour 01 a", Look.reef("a#"), 0, ButtonReef.BLEACHED);
        Edges.rejectsCommand("plant 77 qa", Look.reef("a#"), 0, ButtonReef.OUTSIDE);
        Edges.rejectsCommand("plant 06 la", Look.reef("a#"), 0, ButtonReef.OUTSIDE);
        Edges.rejectsCommand("plant 60 xa", Look.reef("a#"), 0, ButtonReef.OUTSIDE);
        Edges.rejectsCommand("plant 06 ga", Look.reef("a#"), 0, ButtonReef.OUTSIDE);
        Edges.rejectsCommand("plant 00 qa", Look.reef("a#"), 0, ButtonReef.OCCUPIED);
        Edges.rejectsCommand("plant 77 qa", Edges.full('a'), 0, ButtonReef.OUTSIDE);
        Edges.rejectsCommand("rule calm", Look.reef("a#"), 0, ButtonReef.SAME_RULE);
        Edges.rejectsCommand("e 3;rule busy", Edges.lived(), 2, ButtonReef.SAME_RULE);
    }

    private static void executeRejectedAtItsPlace() {
        Check.begin("promise 48, COMMAND_REJECTED, \"The detail is the number of the command, from 0\"");
        StringBuilder text = new StringBuilder();
        for (int number = 0; number <= 7; number++) {
            Edges.rejectsCommand(text + "rule calm", Look.reef("a#"), number, ButtonReef.SAME_RULE);
            text.append("tide 1;");
        }
        Edges.rejectsCommand("remove 00;remove 00;remove 00", Look.reef("a#"), 1, ButtonReef.NO_BUTTON);
        Edges.rejectsCommand("tide 1;remove 77;tide 1", Look.reef("a#"), 1, ButtonReef.NO_BUTTON);
    }

    private static void executeThrowsOfTheFirstCommandThatFails() {
        Check.begin("promise 48, \"if the first command that fails has a cell or a number that its method does not accept\"");
        failsAndLeaves(Look.reef("a#"), "place 80 a;place 00 a");
        failsAndLeaves(Look.reef("a#"), "tide 0;rule calm");
        failsAndLeaves(Look.reef("a#"), "rule busy;tide 21;rule busy");
        Edges.rejectsCommand("place 00 a;place 80 a", Look.reef("a#"), 0, ButtonReef.OCCUPIED);
        Edges.rejectsCommand("rule calm;tide 0", Look.reef("a#"), 0, ButtonReef.SAME_RULE);
        Edges.rejectsCommand("rule busy;rule busy;tide 21", Look.reef("a#"), 1, ButtonReef.SAME_RULE);
    }

    private static void executeThrowsOfASyntaxErrorFirst() {
        Check.begin("promise 48, \"the one that is listed first is thrown\"");
        hasSyntaxError(11, "place 80 a;", Look.reef("a#"));
        hasSyntaxError(13, "rule calm;rul calm", Look.reef("a#"));
        hasSyntaxError(21, "tide 99;rule calm;tid", Look.reef("a#"));
        hasSyntaxError(8, "place 998a", Look.reef("a#"));
    }

    private static void executeMeetsWhatEarlierCommandsHaveDone() {
        Check.begin("promise 48, each command after those ahead of it");
        Check.same("place, bleach and remove", 3, Look.run(Reef.fresh(), "place 00 a;bleach 00;remove 00"));
        Edges.rejectsCommand("place 00 a;place 00 a", Reef.fresh(), 1, ButtonReef.OCCUPIED);
        Edges.rejectsCommand("place 00 a;bleach 00;bleach 00", Reef.fresh(), 2, ButtonReef.BLEACHED);
        Edges.rejectsCommand("place 00 a;tide 1;bleach 00", Reef.fresh(), 2, ButtonReef.BLEACHED);
        Edges.rejectsCommand("place 00 a;tide 2;bleach 00", Reef.fresh(), 2, ButtonReef.NO_BUTTON);
        Edges.rejectsCommand("rule busy;rule busy", Reef.fresh(), 1, ButtonReef.SAME_RULE);
        Check.same("the rule and back", 2, Look.run(Reef.fresh(), "rule busy;rule calm"));
        Reef reef = Look.reef("aaa", "...", "aaa");
        Check.same("the rule and a tide by it", 2, Look.run(reef, "rule busy;tide 1"));
        Check.same("what is born by it", true, reef.isLiving(1, 1));
        Reef typed = Reef.fresh();
        Look.type(typed, "remove 00");
        typed.place(0, 0, 'a');
        Check.same("calls while the input waits", 1, typed.execute());
        Check.same("livingCount() then", 0, typed.livingCount());
    }

    // ---- promise 49

    private static void hasSyntaxError(int due, String text, Reef reef) {
        String before = Look.data(reef) + Look.history(reef) + Look.saved(reef) + Look.written(reef) + Look.rejection(reef);
        Check.fails("'" + text + "'", Edges.BAD_ARGUMENT, () -> Look.run(reef, text));
        Check.same("the offset in '" + text + "'", due, reef.syntaxErrorOffset());
        Check.same("all but the offset and the input after '" + text + "'", before,
            Look.data(reef) + Look.history(reef) + Look.saved(reef) + Look.written(reef) + Look.rejection(reef));
        Edges.isEmptyInput("after '" + text + "'", reef);
    }

    private static void noSyntaxErrorAtFirst() {
        Check.begin("promise 49, \"Throws NoSuchElementException if there was no syntax error\"");
        Reef reef = Look.reef("a");
        Edges.fails("at first", Edges.NO_ELEMENT, reef, reef::syntaxErrorOffset);
        Look.run(reef, "tide 1");
        Edges.fails("after commands", Edges.NO_ELEMENT, reef, reef::syntaxErrorOffset);
        Check.fails("a number out of range", Edges.BAD_STATE, () -> Look.run(reef, "tide 0"));
        Edges.fails("after a number out of range", Edges.NO_ELEMENT, reef, reef::syntaxErrorOffset);
        Check.fails("a rejected command", Edges.REJECTED, () -> Look.run(reef, "rule calm"));
        Edges.fails("after a rejected command", Edges.NO_ELEMENT, reef, reef::syntaxErrorOffset);
        Look.type(reef, "???");
        Edges.fails("ahead of execute", Edges.NO_ELEMENT, reef, reef::syntaxErrorOffset);
    }

    /** Each character of each command is changed to others, which are right at another place. */
    private static void offsetOfEveryFirstWrongCharacter() {
        Check.begin("promise 49, \"the first character that cannot follow the characters ahead of it in any input\"");
        String signs = " ;09abcdeglpqrstx~/:AP";
        for (String command : EVERY_COMMAND) {
            for (int at = 0; at <= command.length(); at++) {
                for (char sign : signs.toCharArray()) {
                    String text = command.substring(0, at) + sign + command.substring(at);
                    int due = PlainCommands.errorOffset(text);
                    if (due >= 0) {
                        Reef reef = Reef.fresh();
                        Check.fails("'" + text + "'", Edges.BAD_ARGUMENT, () -> Look.run(reef, text));
                        Check.same("the offset in '" + text + "'", due, reef.syntaxErrorOffset());
                    }
                }
            }
        }
        hasSyntaxError(2, "plus", Reef.fresh());
        hasSyntaxError(3, "plaque", Reef.fresh());
        hasSyntaxError(4, "plane", Reef.fresh());
        hasSyntaxError(1, "ride 1", Reef.fresh());
        hasSyntaxError(4, "remote 00", Reef.fresh());
    }

    private static void offsetOfAnInputThatEndsTooEarly() {
        Check.begin("promise 49, \"it is the length of the input if the input ends too early\"");
        for (String command : new String[] {"place 70 a", "remove 00", "bleach 00", "colour 00 d", "plant 40 gb",
            "rule calm", "rule busy", "rule slow", "tide 1"}) {
            for (int length = 0; length < command.length(); length++) {
                hasSyntaxError(length, command.substring(0, length), Reef.fresh());
                hasSyntaxError(7 + length, "tide 1;" + command.substring(0, length), Reef.fresh());
            }
        }
    }

    private static void offsetOfLettersThatAreNoColourOrPattern() {
        Check.begin("\"a letter that is not a colour or a pattern where one is needed is a syntax error\"");
        for (char letter : "`eAxqz1 ".toCharArray()) {
            hasSyntaxError(9, "place 00 " + letter, Reef.fresh());
            hasSyntaxError(10, "colour 00 " + letter, Reef.fresh());
            hasSyntaxError(10, "plant 00 q" + letter, Reef.fresh());
        }
        for (char letter : "pramkwyfhQLXGabcd ".toCharArray()) {
            hasSyntaxError(9, "plant 00 " + letter + "a", Reef.fresh());
        }
        Check.begin("\"there is no space between a pattern and its colour\"");
        for (char pattern : "qlxg".toCharArray()) {
            hasSyntaxError(10, "plant 00 " + pattern + " a", Reef.fresh());
        }
    }

    private static void offsetsAtTheEndOfAFullInput() {
        Check.begin("promise 49, the greatest offsets");
        String start = "tide 1;tide 2;tide 3;tide 4;tide 5;tide 6;tide 7;tide 8;";
        hasSyntaxError(56, start, Reef.fresh());
        hasSyntaxError(60, start + "tide", Reef.fresh());
        hasSyntaxError(59, start + "tidy", Reef.fresh());
        hasSyntaxError(56, start + "????", Reef.fresh());
        hasSyntaxError(0, "~".repeat(LIMIT), Reef.fresh());
        hasSyntaxError(59, "tide 1;tide 2;tide 3;tide 4;tide 5;tide 6;tide 7;place 00 a;".substring(0, 59) + "a",
            Reef.fresh());
    }

    private static void offsetOfTheLatestSyntaxError() {
        Check.begin("promise 49, \"the offset of the latest syntax error\"");
        Reef reef = Look.reef("a");
        reef.saveSnapshot();
        hasSyntaxError(5, "tide x", reef);
        hasSyntaxError(0, "", reef);
        hasSyntaxError(3, "tid", reef);
        Look.run(reef, "tide 1");
        Check.same("after commands", 3, reef.syntaxErrorOffset());
        Check.outcome(() -> Look.run(reef, "tide 0"));
        Check.outcome(() -> Look.run(reef, "rule calm"));
        Check.same("after commands that fail otherwise", 3, reef.syntaxErrorOffset());
        reef.undo();
        Check.same("after undo", 3, reef.syntaxErrorOffset());
        reef.restoreSnapshot();
        Check.same("after restoreSnapshot", 3, reef.syntaxErrorOffset());
        Edges.leaves("syntaxErrorOffset()", reef, reef::syntaxErrorOffset);
    }
}
