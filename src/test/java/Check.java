import java.util.Objects;

/** Compares answers with those that are due, and ends a test with exit code 1 if one was wrong. */
final class Check {
    interface Call {
        Object answer();
    }

    private static int wrong = 0;
    private static int looked = 0;

    private Check() {
    }

    static void answers(Object due, Call call) {
        Object got;
        try {
            got = call.answer();
        } catch (RuntimeException e) {
            got = "throws " + e;
        }
        same(due, got);
    }

    static void refuses(Class<? extends RuntimeException> due, Call call) {
        Object got;
        try {
            got = "the answer " + call.answer();
        } catch (RuntimeException e) {
            got = e.getClass();
        }
        same(due, got);
    }

    static void same(Object due, Object got) {
        same("", due, got);
    }

    static void same(String what, Object due, Object got) {
        looked++;
        if (!Objects.equals(due, got)) {
            wrong++;
            System.out.println(what + " due is " + due + ", got " + got + " at " + place());
        }
    }

    private static String place() {
        StringBuilder lines = new StringBuilder();
        for (StackTraceElement frame : new Throwable().getStackTrace()) {
            if (!frame.getClassName().equals("Check")) {
                lines.append(frame.getFileName()).append(':').append(frame.getLineNumber()).append(' ');
            }
        }
        return lines.toString();
    }

    static void end() {
        System.out.println(looked + " answers looked at, " + wrong + " wrong");
        if (wrong > 0 || looked == 0) {
            System.exit(1);
        }
    }
}
