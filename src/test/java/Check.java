import java.util.Objects;

/** What the tests share: it counts the answers that are not due, and prints them. */
final class Check {
    interface Call {
        Object run();
    }

    private static final int LONG = 120;

    private static int wrong = 0;
    private static int checks = 0;
    private static String place = "";

    private Check() {
    }

    static void begin(String name) {
        place = name;
    }

    static void same(String what, Object due, Object got) {
        checks++;
        if (!Objects.equals(due, got)) {
            wrong++;
            int at = firstDifference(String.valueOf(due), String.valueOf(got));
            System.out.println(place + ": " + what + " answered " + from(at, got) + ", due is " + from(at, due));
        }
    }

    private static int firstDifference(String one, String other) {
        int at = 0;
        while (at < Math.min(one.length(), other.length()) && one.charAt(at) == other.charAt(at)) {
            at++;
        }
        return at;
    }

    /** Of a long answer, only what stands round the first difference. */
    private static String from(int at, Object answer) {
        String text = String.valueOf(answer);
        if (text.length() <= LONG) {
            return text;
        }
        int start = Math.max(0, at - LONG / 2);
        return "(from " + start + " on) " + text.substring(start, Math.min(text.length(), start + LONG));
    }

    /** The exception itself is due, not a class below it. */
    static void fails(String what, Class<?> due, Call call) {
        same(what, "throws " + due.getName(), outcome(call));
    }

    static Object outcome(Call call) {
        try {
            return call.run();
        } catch (RuntimeException e) {
            return "throws " + e.getClass().getName();
        }
    }

    static void end() {
        System.out.println(checks + " checks, " + wrong + " wrong");
        if (wrong != 0) {
            System.exit(1);
        }
    }
}
