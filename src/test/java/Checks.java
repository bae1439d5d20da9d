/** Counts what was checked, prints what is not as due, and ends the test with exit code 1 if anything was not. */
final class Checks {
    interface Call {
        Object answer();
    }

    private static int checked = 0;
    private static int wrong = 0;

    private Checks() {
    }

    static void same(String what, Object got, Object due) {
        checked++;
        if (!got.equals(due)) {
            wrong++;
            System.out.println(what + ": answered " + got + ", due is " + due);
        }
    }

    /** The call must throw just this class and leave the book's checksum as it was. */
    static void refused(String what, Strandbook book, Class<? extends Exception> due, Call call) {
        long before = book.checksum();
        same(what, answerOf(call), "throws " + due.getSimpleName());
        same(what + ", then checksum", book.checksum(), before);
    }

    /** What the call returns, or the name of what it throws, so that both can be compared alike. */
    static Object answerOf(Call call) {
        try {
            return call.answer();
        } catch (RuntimeException e) {
            return "throws " + e.getClass().getSimpleName();
        }
    }

    static boolean hasWrong() {
        return wrong > 0;
    }

    static void end(String test) {
        System.out.println(test + ": " + checked + " checks, " + wrong + " not as due");
        if (wrong > 0) {
            System.exit(1);
        }
    }
}
