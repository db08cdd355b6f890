import java.util.Objects;

/** What the tests share: it counts the answers that are not due, and prints them. */
final class Check {
    interface Call {
        Object run();
    }

    private static int wrong = 0;
    private static int checks = 0;
    private static String place = "";

    private Check() {
    }

    static void begin(String name) {
        place = name;
    }

    static void same(String what, Object due, Object got) {
        checks++;
        if (!Objects.equals(due, got)) {
            wrong++;
            System.out.println(place + ": " + what + " answered " + got + ", due is " + due);
        }
    }

    /** The exception itself is due, not a class below it. */
    static void fails(String what, Class<?> due, Call call) {
        same(what, "throws " + due.getName(), outcome(call));
    }

    static Object outcome(Call call) {
        try {
            return call.run();
        } catch (RuntimeException e) {
            return "throws " + e.getClass().getName();
        }
    }

    static void end() {
        System.out.println(checks + " checks, " + wrong + " wrong");
        if (wrong != 0) {
            System.exit(1);
        }
    }
}
