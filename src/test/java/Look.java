/** Looks at a reef through its face, and fills it. */
final class Look {
    static final String COLOURS = "abcd";

    private Look() {
    }

    static String output(ButtonReef reef, int length) {
        StringBuilder text = new StringBuilder();
        for (int i = 0; i < length; i++) {
            text.append(reef.outputAt(i));
        }
        return text.toString();
    }

    static String row(ButtonReef reef, int row) {
        return output(reef, reef.writeRow(row));
    }

    /** Everything that undo and the snapshot cover. It leaves the output alone. */
    static String data(ButtonReef reef) {
        StringBuilder text = new StringBuilder();
        for (int cell = 0; cell < 64; cell++) {
            int row = cell / 8;
            int column = cell % 8;
            if (reef.isLiving(row, column)) {
                text.append(reef.colourAt(row, column)).append(reef.ageAt(row, column));
            } else {
                text.append(reef.isBleached(row, column) ? "#" : reef.isEmpty(row, column) ? "." : "?");
            }
            text.append(column == 7 ? "/" : "");
        }
        return text + " rule " + reef.rule() + " tides " + reef.tideCount() + " placed " + reef.placedCount()
            + " removed " + reef.removedCount() + " born " + reef.bornCount() + " bleachings " + reef.bleachings()
            + " washed " + reef.washedCount();
    }

    /** What undo and the snapshot do not cover, but for the input, which only appendInput tells. */
    static String latest(ButtonReef reef) {
        return "reason " + Check.outcome(() -> reef.rejectionReason()) + " detail "
            + Check.outcome(() -> reef.rejectionDetail()) + " cause " + Check.outcome(() -> reef.causeReason())
            + " offset " + Check.outcome(() -> reef.syntaxErrorOffset());
    }

    static void type(ButtonReef reef, String text) {
        for (char c : text.toCharArray()) {
            reef.appendInput(c);
        }
    }

    static int run(ButtonReef reef, String text) {
        type(reef, text);
        return reef.execute();
    }

    /** Rows from the top, with "." for an empty cell, "#" for a bleached button, and letters of age 0. */
    static ButtonReef reef(String... rows) {
        ButtonReef reef = new ButtonReef();
        for (int row = 0; row < rows.length; row++) {
            for (int column = 0; column < rows[row].length(); column++) {
                char sign = rows[row].charAt(column);
                if (sign == '#') {
                    reef.place(row, column, 'a');
                    reef.bleach(row, column);
                } else if (sign != '.') {
                    reef.place(row, column, sign);
                }
            }
        }
        return reef;
    }
}
