import java.util.NoSuchElementException;

/** What the tests share: each prints what is not as due, and ends with exit code 1 if anything was not. */
final class Check {
    static final Class<?> INDEX = IndexOutOfBoundsException.class;
    static final Class<?> ARGUMENT = IllegalArgumentException.class;
    static final Class<?> STATE = IllegalStateException.class;
    static final Class<?> ELEMENT = NoSuchElementException.class;

    interface Call {
        void run();
    }

    private static int checks = 0;
    private static int wrong = 0;

    private Check() {
    }

    static void same(String what, long got, long due) {
        checks++;
        if (got != due) {
            wrong++;
            System.out.println(what + " answered " + got + ", due is " + due);
        }
    }

    static void same(String what, boolean got, boolean due) {
        same(what, got ? 1 : 0, due ? 1 : 0);
    }

    static void same(String what, String got, String due) {
        checks++;
        if (!got.equals(due)) {
            wrong++;
            System.out.println(what + " answered " + got + ", due is " + due);
        }
    }

    /** The very class is asked for: an exception of the Java machine would be one of a class below it. */
    static void refused(String what, Class<?> due, Call call) {
        try {
            call.run();
            same(what, "nothing thrown", "throws." + due.getName());
        } catch (RuntimeException thrown) {
            same(what, named(thrown), "throws." + due.getName());
        }
    }

    /** Tells too if it was the library that threw: the program has to look at an index before it hands it on. */
    static String named(RuntimeException thrown) {
        StackTraceElement[] calls = thrown.getStackTrace();
        String place = calls.length == 0 ? "" : calls[0].getClassName();
        String name = "throws." + thrown.getClass().getName();
        return place.startsWith("java.") || place.startsWith("jdk.") ? name + " in " + place : name;
    }

    static void end(String test) {
        System.out.println(test + ": " + checks + " checks, " + wrong + " wrong");
        if (wrong != 0) {
            System.exit(1);
        }
    }
}
