/** Compares answers with what is due, prints each that differs, and ends the program with exit code 1 if one did. */
final class Check {
    private int passed;
    private int failed;

    interface Call {
        Object answer();
    }

    /** The answer of a call as a text: a number, a sign, true or false, or throws.X for an exception of the class X. */
    static String answerOf(Call call) {
        try {
            return String.valueOf(call.answer());
        } catch (RuntimeException e) {
            return "throws." + e.getClass().getSimpleName();
        }
    }

    void due(String what, Object want, Call call) {
        same(what, String.valueOf(want), answerOf(call));
    }

    void same(String what, String want, String got) {
        if (want.equals(got)) {
            passed++;
            return;
        }
        failed++;
        System.out.println(what + " answered " + got + ", due is " + want);
    }

    void index(String what, Call call) {
        due(what, "throws.IndexOutOfBoundsException", call);
    }

    void argument(String what, Call call) {
        due(what, "throws.IllegalArgumentException", call);
    }

    void state(String what, Call call) {
        due(what, "throws.IllegalStateException", call);
    }

    void unsupported(String what, Call call) {
        due(what, "throws.UnsupportedOperationException", call);
    }

    void none(String what, Call call) {
        due(what, "throws.NoSuchElementException", call);
    }

    void arithmetic(String what, Call call) {
        due(what, "throws.ArithmeticException", call);
    }

    void close(String name) {
        System.out.println(name + ": " + passed + " answers are as due, " + failed + " are not");
        if (failed != 0 || passed == 0) {
            System.exit(1);
        }
    }
}
