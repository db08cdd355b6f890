import java.util.regex.Matcher;
import java.util.regex.Pattern;

/** The syntax of the commands as a regular expression, apart from how the program reads them. */
final class PlainCommands {
    private static final String CELL = "[0-9][0-9]";
    private static final String COMMAND = "(?:place " + CELL + " [a-d]|remove " + CELL + "|bleach " + CELL + "|colour "
        + CELL + " [a-d]|plant " + CELL + " [qlxg][a-d]|rule (?:calm|busy|slow)|tide [0-9][0-9]?)";
    private static final Pattern INPUT = Pattern.compile(COMMAND + "(?:;" + COMMAND + ")*");

    private PlainCommands() {
    }

    /** -1 if there is no syntax error. */
    static int errorOffset(String text) {
        if (INPUT.matcher(text).matches()) {
            return -1;
        }
        for (int length = 1; length <= text.length(); length++) {
            if (!isBeginning(text.substring(0, length))) {
                return length - 1;
            }
        }
        return text.length();
    }

    private static boolean isBeginning(String text) {
        Matcher matcher = INPUT.matcher(text);
        return matcher.matches() || matcher.hitEnd();
    }
}
