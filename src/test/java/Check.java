/** Tells of every call whose answer is not the one that is due, and of how many there were. */
final class Check {
    static final Class<IndexOutOfBoundsException> UNKNOWN = IndexOutOfBoundsException.class;
    static final Class<IllegalArgumentException> ARGUMENT = IllegalArgumentException.class;
    static final Class<IllegalStateException> STATE = IllegalStateException.class;
    static final Class<UnsupportedOperationException> UNSUPPORTED = UnsupportedOperationException.class;

    private static int calls = 0;
    private static int wrong = 0;

    interface Call {
        Object answer();
    }

    interface Deed {
        void happen();
    }

    private Check() {
    }

    static void answers(String call, long due, Call made) {
        compare(call, Long.valueOf(due), outcome(made));
    }

    static void answers(String call, boolean due, Call made) {
        compare(call, Boolean.valueOf(due), outcome(made));
    }

    static void happens(String call, Deed made) {
        compare(call, "done", outcome(() -> {
            made.happen();
            return "done";
        }));
    }

    static void refuses(String call, Class<? extends RuntimeException> due, Deed made) {
        compare(call, due, outcome(() -> {
            made.happen();
            return "done";
        }));
    }

    static void compare(String call, Object due, Object got) {
        calls++;
        if (!due.equals(got)) {
            wrong++;
            System.out.println(call + ": " + got + ", due is " + due);
        }
    }

    /** The answer, any whole number as a Long, or the class of what was thrown. */
    static Object outcome(Call made) {
        try {
            Object answer = made.answer();
            return answer instanceof Integer ? Long.valueOf((Integer) answer) : answer;
        } catch (RuntimeException e) {
            return e.getClass();
        }
    }

    static void end() {
        System.out.println(calls + " calls compared, " + wrong + " wrong");
        if (wrong > 0 || calls == 0) {
            System.exit(1);
        }
    }
}
