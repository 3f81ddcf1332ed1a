import java.util.function.Supplier;

/** Counts what a test finds, and tells what is wrong. */
final class Check {
    private int passed;
    private int failed;

    interface Call {
        Object answer();
    }

    interface CallOn {
        Object answer(Fabricmap x);
    }

    /** What a call answers: its result, or throws. and the exception's name. */
    static String answerOf(Call call) {
        try {
            return String.valueOf(call.answer());
        } catch (RuntimeException e) {
            return "throws." + e.getClass().getSimpleName();
        }
    }

    int amount() {
        return passed + failed;
    }

    void due(String what, Object want, Call call) {
        String got = answerOf(call);
        if (got.equals(String.valueOf(want))) {
            passed++;
        } else {
            failed++;
            System.out.println(what + " answered " + got + ", due is " + want);
        }
    }

    void index(String what, Call call) {
        due(what, "throws.IndexOutOfBoundsException", call);
    }

    void argument(String what, Call call) {
        due(what, "throws.IllegalArgumentException", call);
    }

    void state(String what, Call call) {
        due(what, "throws.IllegalStateException", call);
    }

    void unsupported(String what, Call call) {
        due(what, "throws.UnsupportedOperationException", call);
    }

    void missing(String what, Call call) {
        due(what, "throws.NoSuchElementException", call);
    }

    /** A call that is refused, with the exception that is due, and behind which all is as without it. */
    void refused(String what, String exception, Supplier<Fabricmap> scene, CallOn call) {
        Fabricmap x = scene.get();
        due(what, "throws." + exception, () -> call.answer(x));
        String as = Look.at(scene.get());
        due(what + ", and what can be seen behind it", as, () -> Look.at(x));
    }

    /** Tells the sum and ends the program, with exit code 1 if something was wrong. */
    void end(String test) {
        System.out.println(test + ": " + passed + " passed, " + failed + " failed");
        System.exit(failed == 0 && passed > 0 ? 0 : 1);
    }
}
