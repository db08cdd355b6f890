import java.util.NoSuchElementException;

/** What the tests of the boundary cases share. */
final class Edges {
    static final Class<?> NO_INDEX = IndexOutOfBoundsException.class;
    static final Class<?> BAD_ARGUMENT = IllegalArgumentException.class;
    static final Class<?> BAD_STATE = IllegalStateException.class;
    static final Class<?> NO_ELEMENT = NoSuchElementException.class;
    static final Class<?> REJECTED = UnsupportedOperationException.class;

    /** One too small and one too large first; then those whose cell number would be in range, and the extremes. */
    private static final int[][] NO_CELLS = {{-1, 0}, {-1, 7}, {8, 0}, {8, 7}, {0, -1}, {7, -1}, {0, 8}, {7, 8},
        {-1, -1}, {8, 8}, {-1, 8}, {8, -1}, {1, -8}, {0, 63}, {7, -56}, {1 << 29, 0}, {Integer.MIN_VALUE, 0},
        {Integer.MAX_VALUE, 7}, {0, Integer.MIN_VALUE}, {7, Integer.MAX_VALUE}};
    /** One below the first colour and one above the last first; the last two have the low byte of a colour. */
    private static final char[] NO_COLOURS = {'a' - 1, 'd' + 1, 'A', 'B', 'C', 'D', 'q', 'z', '.', '#', '*', ' ', '0', 0,
        '\uffff', 'a' + 256, 'd' + 0xff00};

    interface CellCall {
        Object run(Reef reef, int row, int column);
    }

    interface SignCall {
        Object run(Reef reef, char sign);
    }

    interface NumberCall {
        Object run(Reef reef, int number);
    }

    private Edges() {
    }

    // ---- reefs

    /**
     * A reef of which everything has a value: rule slow, 5 tides, every total above 0, more than 8 changes, a snapshot, an
     * output, an input, a rejected command and a syntax error.
     */
    static Reef lived() {
        Reef reef = Reef.fresh();
        reef.plant(2, 1, 'q', 'b');
        reef.setRule('s');
        reef.place(0, 7, 'a');
        reef.passTides(4);
        reef.plant(5, 4, 'l', 'c');
        reef.passTides(1);
        reef.bleach(2, 1);
        reef.saveSnapshot();
        reef.remove(3, 1);
        reef.recolour(3, 2, 'a');
        reef.place(0, 0, 'a');
        reef.place(7, 0, 'd');
        reef.place(7, 7, 'd');
        reef.bleach(7, 7);
        Check.outcome(() -> Look.run(reef, "tide 1;rule slow"));
        Check.outcome(() -> Look.run(reef, "tide x"));
        reef.writeRule();
        Look.type(reef, "rule busy;tid");
        return reef;
    }

    /** 64 living buttons of age 0, or 64 bleached ones with '#'. */
    static Reef full(char sign) {
        String row = String.valueOf(sign).repeat(8);
        return Look.reef(row, row, row, row, row, row, row, row);
    }

    static char colourOf(int cell) {
        return Look.COLOURS.charAt((cell + cell / 8) % 4);
    }

    static boolean touch(int cell, int other) {
        int down = Math.abs(cell / 8 - other / 8);
        int right = Math.abs(cell % 8 - other % 8);
        return Math.max(down, right) == 1;
    }

    static void useRule(Reef reef, char rule) {
        if (reef.rule() != rule) {
            reef.setRule(rule);
        }
    }

    // ---- calls that throw

    /** A call that throws changes nothing, an exception but UnsupportedOperationException not even the rejection. */
    static void fails(String what, Class<?> due, Reef reef, Check.Call call) {
        String before = Look.all(reef);
        Check.fails(what, due, call);
        Check.same("all after " + what, before, Look.all(reef));
    }

    /** A rejected call changes nothing but the latest rejection, which has no cause. */
    static void rejects(String what, Reef reef, int reason, int detail, Check.Call call) {
        String before = Look.lasting(reef) + Look.input(reef);
        Check.fails(what, REJECTED, call);
        Check.same("all but the latest rejection after " + what, before, Look.lasting(reef) + Look.input(reef));
        Check.same("the latest rejection after " + what,
            "reason " + reason + " detail " + detail + " cause throws java.util.NoSuchElementException",
            Look.rejection(reef));
    }

    /** Rejected commands change nothing but the latest rejection and the input, which is empty. */
    static void rejectsCommand(String text, Reef reef, int number, int cause) {
        String before = Look.lasting(reef);
        Check.fails("'" + text + "'", REJECTED, () -> Look.run(reef, text));
        Check.same("all but rejection and input after '" + text + "'", before, Look.lasting(reef));
        Check.same("the latest rejection after '" + text + "'",
            "reason 6 detail " + number + " cause " + cause, Look.rejection(reef));
        isEmptyInput("after '" + text + "'", reef);
    }

    static void isEmptyInput(String when, Reef reef) {
        Check.same("the length of the input with one more, " + when, 1, reef.twin().appendInput('x'));
    }

    static void refusesCells(String what, CellCall call) {
        Reef reef = lived();
        for (int[] cell : NO_CELLS) {
            fails(what + " at " + cell[0] + ", " + cell[1], NO_INDEX, reef, () -> call.run(reef, cell[0], cell[1]));
        }
    }

    static void refusesColours(String what, SignCall call) {
        refusesSigns(what, lived(), NO_COLOURS, call);
    }

    static void refusesSigns(String what, Reef reef, char[] signs, SignCall call) {
        for (char sign : signs) {
            fails(what + " of " + (int) sign, BAD_ARGUMENT, reef, () -> call.run(reef, sign));
        }
    }

    static void refusesNumbers(String what, Class<?> due, int least, int greatest, NumberCall call) {
        Reef reef = lived();
        int[] numbers = {least - 1, greatest + 1, least - 2, greatest + 2, least - 32, greatest + 256, Integer.MIN_VALUE,
            Integer.MAX_VALUE};
        for (int number : numbers) {
            fails(what + " with " + number, due, reef, () -> call.run(reef, number));
        }
    }

    /** A question changes nothing. */
    static void leaves(String what, Reef reef, Check.Call call) {
        String before = Look.all(reef);
        Check.outcome(call);
        Check.same("all after " + what, before, Look.all(reef));
    }
}
