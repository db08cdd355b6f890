/** Looks at a reef through its face, and fills it. What looks works on twins, so the reef stays as it is. */
final class Look {
    static final String COLOURS = "abcd";
    private static final int LONGEST = 64;
    private static final String[] ENDINGS = {"", "~", "1", "e 3", " 3;tide 3", ";tide 3"};

    private Look() {
    }

    /** Everything that a later call could tell. */
    static String all(Reef reef) {
        return lasting(reef) + "\n" + rejection(reef) + "\n" + input(reef);
    }

    /** Everything but the input and the latest rejection. */
    static String lasting(Reef reef) {
        return data(reef) + "\n" + written(reef) + "\n" + offset(reef) + "\n" + history(reef) + "\n" + saved(reef);
    }

    /** Everything that undo and the snapshot cover. */
    static String data(Reef reef) {
        Reef twin = reef.twin();
        StringBuilder text = new StringBuilder();
        for (int cell = 0; cell < 64; cell++) {
            text.append(cell(twin, cell / 8, cell % 8)).append(cell % 8 == 7 ? "/" : "");
        }
        return text + " rule " + twin.rule() + " tides " + twin.tideCount() + " placed " + twin.placedCount()
            + " removed " + twin.removedCount() + " born " + twin.bornCount() + " bleachings " + twin.bleachings()
            + " washed " + twin.washedCount();
    }

    private static String cell(Reef reef, int row, int column) {
        if (reef.isLiving(row, column)) {
            return "" + reef.colourAt(row, column) + reef.ageAt(row, column);
        }
        return reef.isBleached(row, column) ? "#" : reef.isEmpty(row, column) ? "." : "?";
    }

    /** The output as it is. */
    static String written(Reef reef) {
        Reef twin = reef.twin();
        StringBuilder text = new StringBuilder("output ");
        for (int index = 0; index < LONGEST; index++) {
            int at = index;
            Object sign = Check.outcome(() -> twin.outputAt(at));
            if (sign instanceof String) {
                return text.toString();
            }
            text.append(sign);
        }
        return text + " and more";
    }

    static String offset(Reef reef) {
        return "offset " + Check.outcome(reef.twin()::syntaxErrorOffset);
    }

    static String rejection(Reef reef) {
        Reef twin = reef.twin();
        return "reason " + Check.outcome(twin::rejectionReason) + " detail " + Check.outcome(twin::rejectionDetail)
            + " cause " + Check.outcome(twin::causeReason);
    }

    /** What the input does with one ending and another: no call tells its characters themselves. */
    static String input(Reef reef) {
        Reef twin = reef.twin();
        StringBuilder text = new StringBuilder("input with one more " + Check.outcome(() -> twin.appendInput('x')));
        for (String ending : ENDINGS) {
            Reef other = reef.twin();
            Check.outcome(() -> type(other, ending));
            text.append(" '").append(ending).append("' ").append(Check.outcome(other::execute)).append(' ')
                .append(offset(other)).append(' ').append(other.tideCount()).append(other.rule());
        }
        return text.toString();
    }

    /** What undo leads back to, change by change. */
    static String history(Reef reef) {
        StringBuilder text = new StringBuilder("undo");
        Reef twin = reef.twin();
        for (int undone = 1; undone <= 10; undone++) {
            Object answer = Check.outcome(twin::undo);
            text.append(' ').append(answer).append(' ').append(data(twin));
            if (answer instanceof String) {
                break;
            }
        }
        return text.toString();
    }

    /** What the snapshot leads back to. */
    static String saved(Reef reef) {
        Reef twin = reef.twin();
        Object answer = Check.outcome(twin::restoreSnapshot);
        return "restoreSnapshot " + answer + " " + data(twin);
    }

    static String row(Reef reef, int row) {
        Reef twin = reef.twin();
        twin.writeRow(row);
        return written(twin).substring("output ".length());
    }

    static String rows(Reef reef) {
        StringBuilder text = new StringBuilder();
        for (int row = 0; row < 8; row++) {
            text.append(row(reef, row)).append(row < 7 ? "/" : "");
        }
        return text.toString();
    }

    /** The length of the input after the last character, 0 if there is none. */
    static int type(Reef reef, String text) {
        int length = 0;
        for (char c : text.toCharArray()) {
            length = reef.appendInput(c);
        }
        return length;
    }

    static int run(Reef reef, String text) {
        type(reef, text);
        return reef.execute();
    }

    /** Rows from the top, with "." for an empty cell, "#" for a bleached button, and letters of age 0. */
    static Reef reef(String... rows) {
        Reef reef = Reef.fresh();
        for (int row = 0; row < rows.length; row++) {
            for (int column = 0; column < rows[row].length(); column++) {
                put(reef, row, column, rows[row].charAt(column));
            }
        }
        return reef;
    }

    private static void put(Reef reef, int row, int column, char sign) {
        if (sign == '#') {
            reef.place(row, column, 'a');
            reef.bleach(row, column);
        } else if (sign != '.') {
            reef.place(row, column, sign);
        }
    }
}
