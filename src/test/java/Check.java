import java.util.concurrent.Callable;

/** Counts the checks of one test program, and prints those that fail. */
final class Check {
    /** A call that may throw; its answer does not matter. */
    interface Call {
        void run() throws Exception;
    }

    private static final int MOST_COMPLAINTS = 40;
    private static int passed = 0;
    private static int failed = 0;
    private static String subject = "";

    private Check() {
    }

    static void promise(int number, String name) {
        subject("promise " + number + " (" + name + ")");
    }

    /** What the checks that follow are about. */
    static void subject(String text) {
        subject = text;
    }

    static String subject() {
        return subject;
    }

    static void same(String what, Object due, Object got) {
        if (String.valueOf(due).equals(String.valueOf(got))) {
            passed++;
        } else {
            failed++;
            complain(subject + ": " + what + " answered " + got + ", due is " + due);
        }
    }

    private static void complain(String text) {
        if (failed <= MOST_COMPLAINTS) {
            System.out.println(text);
        }
    }

    static void answers(String what, Object due, Callable<?> call) {
        same(what, due, outcome(call));
    }

    static void refuses(String what, Class<? extends Exception> due, Call call) {
        same(what, due.getSimpleName(), outcome(() -> {
            call.run();
            return "an answer";
        }));
    }

    /** The call throws as due, and what the knitter answers in brief is as before; Edge asks for more. */
    static void refusesIdly(String what, Class<? extends Exception> due, ShawlKnitter knitter, Call call) {
        String before = View.inBrief(knitter) + View.ofRejection(knitter);
        refuses(what, due, call);
        same(what + ": the knitter after the refusal", before, View.inBrief(knitter) + View.ofRejection(knitter));
    }

    /** The call is rejected for this reason, and changes nothing but the latest rejection. */
    static void rejects(String what, int reason, int detail, ShawlKnitter knitter, Call call) {
        String before = View.inBrief(knitter);
        refuses(what, UnsupportedOperationException.class, call);
        answers(what + ": its reason", reason, knitter::rejectionReason);
        answers(what + ": its detail", detail, knitter::rejectionDetail);
        same(what + ": the data after the rejection", before, View.inBrief(knitter));
    }

    /** The answer of a call as a text, or the name of the exception that it throws. */
    static String outcome(Callable<?> call) {
        try {
            return String.valueOf(call.call());
        } catch (Exception e) {
            return e.getClass().getSimpleName();
        }
    }

    static void finish() {
        System.out.println(passed + " passed, " + failed + " failed");
        if (failed > 0 || passed == 0) {
            System.exit(1);
        }
    }
}
