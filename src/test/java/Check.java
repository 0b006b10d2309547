import java.util.function.Supplier;

/** Counts what is not as due, and tells it. */
final class Check {
    private int looked = 0;
    private int wrong = 0;

    void due(String what, Object got, Object want) {
        looked++;
        if (!got.equals(want)) {
            wrong++;
            System.out.println(what + ": answered " + got + ", due is " + want);
        }
    }

    void dueThrow(String what, Class<? extends RuntimeException> want, Runnable call) {
        due(what, outcome(call), want.getSimpleName());
    }

    static String outcome(Runnable call) {
        return answer(() -> {
            call.run();
            return "nothing thrown";
        });
    }

    /** As text, or the name of the exception. */
    static String answer(Supplier<Object> call) {
        try {
            return String.valueOf(call.get());
        } catch (RuntimeException thrown) {
            return nameOf(thrown);
        }
    }

    /** What the machine or the library throws is never due, even under the name that is. */
    private static String nameOf(RuntimeException thrown) {
        StackTraceElement[] trace = thrown.getStackTrace();
        boolean isOwn = trace.length > 0 && trace[0].getClassName().startsWith("BasketryOffice");
        return thrown.getClass().getSimpleName() + (isOwn ? "" : " of the machine");
    }

    void end(String name) {
        System.out.println(name + ": " + looked + " answers looked at, " + wrong + " not as due");
        if (wrong > 0 || looked == 0) {
            System.exit(1);
        }
    }
}
