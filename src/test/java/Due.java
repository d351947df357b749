/** Counts the calls whose answer is not the one that is due, and tells them. */
final class Due {
    interface Call {
        Object answer();
    }

    private static int asked = 0;
    private static int wrong = 0;

    private Due() {
    }

    static void is(String call, Object want, Call made) {
        asked++;
        String got = told(made);
        String due = plain(want);
        if (!got.equals(due)) {
            wrong++;
            System.out.println(call + " answered " + got + ", due is " + due);
        }
    }

    static void fails(String call, Class<? extends RuntimeException> kind, Call made) {
        asked++;
        String got = told(made);
        String due = "throws." + kind.getSimpleName();
        if (!got.equals(due)) {
            wrong++;
            System.out.println(call + " answered " + got + ", due is " + due);
        }
    }

    static void argument(String call, Call made) {
        fails(call, IllegalArgumentException.class, made);
    }

    static void state(String call, Call made) {
        fails(call, IllegalStateException.class, made);
    }

    static void index(String call, Call made) {
        fails(call, IndexOutOfBoundsException.class, made);
    }

    static int asked() {
        return asked;
    }

    static int wrong() {
        return wrong;
    }

    static void end(String test) {
        System.out.println(test + ": " + asked + " asked, " + wrong + " wrong");
        if (wrong != 0) {
            System.exit(1);
        }
    }

    /** The very class is told, so that an exception of the machine is not taken for one of ours. */
    static String told(Call made) {
        try {
            return plain(made.answer());
        } catch (RuntimeException e) {
            return "throws." + e.getClass().getSimpleName();
        }
    }

    private static String plain(Object value) {
        if (value instanceof Double || value instanceof Boolean || value instanceof String) {
            return value.toString();
        }
        return value instanceof Number n ? Long.toString(n.longValue()) : String.valueOf(value);
    }
}
