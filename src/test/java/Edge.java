import java.util.HashSet;
import java.util.Set;

/**
 * The tests of the sentences of the document: each stands for one of them, and asks on both sides of the boundary that
 * it names. Every question goes to a knitter of its own, as a knitter promises 512 calls alone.
 */
abstract class Edge {
    /** The calls that bring a new knitter to where a question is asked. */
    interface Setup {
        void on(ShawlKnitter knitter) throws Exception;
    }

    /** The call that is asked about. */
    interface Asking {
        Object of(ShawlKnitter knitter) throws Exception;
    }

    /** The same call for each index. */
    interface AskingByIndex {
        Object of(ShawlKnitter knitter, int index) throws Exception;
    }

    static final Class<IndexOutOfBoundsException> NO_INDEX = IndexOutOfBoundsException.class;
    static final Class<IllegalArgumentException> BAD_ARGUMENT = IllegalArgumentException.class;
    static final Class<IllegalStateException> BAD_STATE = IllegalStateException.class;
    static final Class<java.util.NoSuchElementException> NO_ELEMENT = java.util.NoSuchElementException.class;
    static final Class<ArithmeticException> NO_NUMBER = ArithmeticException.class;

    static final Setup NEW = knitter -> { };

    private static final String NONE_REJECTED = "NoSuchElementException";
    private static final Set<String> quoted = new HashSet<>();
    private static String current = "";
    private static int accepted = 0;
    private static int refused = 0;

    // ---- the sentences

    /** Begins the test of a sentence; a quote of a part of it will do. */
    static void sentence(int section, String quote) {
        closeSentence();
        String whole = Document.sentenceOf(section, quote);
        current = section + ": " + (whole == null ? quote : whole);
        accepted = 0;
        refused = 0;
        Check.subject((section > 0 ? "promise " + section : "terms") + ", '" + quote + "'");
        Check.same("a look for the sentence in the document", true, whole != null);
        quoted.add(current);
    }

    /** A test without questions, or with one side alone of what is refused, is none. */
    private static void closeSentence() {
        if (!current.isEmpty()) {
            boolean bothSides = !current.contains(": Throws ") || accepted > 0 && refused > 0;
            Check.same("a look for questions on both sides", true, bothSides && accepted + refused > 0);
        }
    }

    static void closeLastSentence() {
        closeSentence();
        current = "";
        Check.subject("the sentences of the document");
        for (String sentence : Document.owed()) {
            Check.same("a look for a test of '" + sentence + "'", true, quoted.contains(sentence));
        }
    }

    // ---- the questions

    static void answers(String call, Object due, Setup setup, Asking asking) {
        accepted++;
        ShawlKnitter knitter = Trace.come(setup);
        Check.same(call, due, Check.outcome(() -> asking.of(knitter)));
    }

    /** The call throws as due, and changes nothing at all. */
    static void refuses(String call, Class<? extends Exception> due, Setup setup, Asking asking) {
        refused++;
        throwsAsDue(call, due, setup, asking);
        Trace.sameAfter(call, setup, asking, Trace.NOTHING, "");
    }

    /** The same for a call that would not be refused if there was an earlier snapshot. */
    static void refusesUnprepared(String call, Class<? extends Exception> due, Setup setup, Asking asking) {
        refused++;
        throwsAsDue(call, due, setup, asking);
        Trace.sameAfterUnprepared(call, setup, asking);
    }

    /** The call is rejected, and changes nothing but the latest rejection. */
    static void rejects(String call, int reason, int detail, Setup setup, Asking asking) {
        refused++;
        throwsAsDue(call, UnsupportedOperationException.class, setup, asking);
        Trace.sameAfter(call, setup, asking, Trace.REJECTION, reason + " " + detail + " " + NONE_REJECTED);
    }

    private static void throwsAsDue(String call, Class<? extends Exception> due, Setup setup, Asking asking) {
        ShawlKnitter knitter = Trace.come(setup);
        Check.same(call, due.getSimpleName(), Check.outcome(() -> asking.of(knitter)));
    }

    /** The commands are executed, and the input is empty then. */
    static void executes(String commands, int count, Setup setup) {
        answers("execute() of '" + commands + "'", count, setup, knitter -> Trace.execute(knitter, commands));
        answers("appendInput('x') after it", 1, setup, knitter -> {
            Trace.execute(knitter, commands);
            return knitter.appendInput('x');
        });
    }

    /** A command is rejected, which changes nothing but the latest rejection and empties the input. */
    static void rejectsCommands(String commands, int number, int cause, Setup setup) {
        refused++;
        String call = "execute() of '" + commands + "'";
        Asking asking = knitter -> Trace.execute(knitter, commands);
        throwsAsDue(call, UnsupportedOperationException.class, setup, asking);
        Trace.sameAfterExecute(call, setup, asking, Trace.REJECTION,
                ShawlKnitter.COMMAND_REJECTED + " " + number + " " + cause);
    }

    /** A command has an argument that its method does not accept, which empties the input alone. */
    static void refusesCommands(String commands, Setup setup) {
        refused++;
        String call = "execute() of '" + commands + "'";
        Asking asking = knitter -> Trace.execute(knitter, commands);
        throwsAsDue(call, BAD_STATE, setup, asking);
        Trace.sameAfterExecute(call, setup, asking, Trace.NOTHING, "");
    }

    /** The commands have a syntax error, which empties the input and sets the offset alone. */
    static void errs(String commands, int offset) {
        refused++;
        String call = "execute() of '" + commands + "'";
        Asking asking = knitter -> Trace.execute(knitter, commands);
        throwsAsDue(call, BAD_ARGUMENT, NEW, asking);
        Trace.sameAfterExecute(call, NEW, asking, Trace.SYNTAX_ERROR, String.valueOf(offset));
    }

    /** Both sentences of a method about its needle: all the needles of the bed are accepted, and no other one. */
    static void needlesAre(int section, String call, Setup setup, Object due, AskingByIndex asking) {
        sentence(section, "- `needle`: the index of a needle, 0 to 23");
        indexesAre(24, call, setup, due, asking);
        sentence(section, "Throws `IndexOutOfBoundsException` if there is no such needle");
        boundsAre(24, NO_INDEX, call, setup, due, asking);
    }

    static void feedersAre(int section, String call, Setup setup, Object due, AskingByIndex asking) {
        sentence(section, "- `feeder`: the index of a feeder, 0 to 3");
        indexesAre(4, call, setup, due, asking);
        sentence(section, "Throws `IndexOutOfBoundsException` if there is no such feeder");
        boundsAre(4, NO_INDEX, call, setup, due, asking);
    }

    /** Each index below the count is accepted; an answer of null stands for the index. */
    static void indexesAre(int count, String call, Setup setup, Object due, AskingByIndex asking) {
        for (int index = 0; index < count; index++) {
            int at = index;
            answers(call + " of " + at, due == null ? at : due, setup, knitter -> asking.of(knitter, at));
        }
    }

    /** The first and the last index are accepted, and those beside them and far off are not. */
    static void boundsAre(int count, Class<? extends Exception> refusal, String call, Setup setup, Object due,
            AskingByIndex asking) {
        for (int index : new int[] {0, count - 1}) {
            answers(call + " of " + index, due == null ? index : due, setup, knitter -> asking.of(knitter, index));
        }
        for (int index : new int[] {-1, count, Integer.MIN_VALUE, Integer.MAX_VALUE}) {
            refuses(call + " of " + index, refusal, setup, knitter -> asking.of(knitter, index));
        }
    }

    /** The whole bed, as the output tells it. */
    static String bedOf(ShawlKnitter knitter) {
        return View.output(knitter, knitter.writeBed());
    }

    // ---- where questions are asked

    static Setup and(Setup... parts) {
        return knitter -> {
            for (Setup part : parts) {
                part.on(knitter);
            }
        };
    }

    static Setup bed(int first, int last) {
        return knitter -> knitter.castOn(first, last);
    }

    static Setup hold(int... needles) {
        return knitter -> {
            for (int needle : needles) {
                knitter.hold(needle);
            }
        };
    }

    static Setup release(int... needles) {
        return knitter -> {
            for (int needle : needles) {
                knitter.release(needle);
            }
        };
    }

    static Setup drop(int... needles) {
        return knitter -> {
            for (int needle : needles) {
                knitter.dropStitch(needle);
            }
        };
    }

    static Setup rows(int... masks) {
        return knitter -> {
            for (int mask : masks) {
                knitter.addPatternRow(mask);
            }
        };
    }

    static Setup tension(int tension) {
        return knitter -> knitter.setTension(tension);
    }

    static Setup feeder(int feeder) {
        return knitter -> knitter.selectFeeder(feeder);
    }

    /** Yarn for a feeder without any. */
    static Setup yarn(int feeder, int units) {
        return knitter -> {
            for (int left = units; left > 0; left -= 99) {
                knitter.addYarn(feeder, Math.min(left, 99));
            }
        };
    }

    static Setup courses(int count) {
        return knitter -> {
            for (int left = count; left > 0; left -= 10) {
                knitter.knit(Math.min(left, 10));
            }
        };
    }

    /** One to three loops on a needle that is in work with one loop; its right neighbour is not in work. */
    static Setup loops(int needle, int count) {
        return knitter -> {
            for (int loop = 1; loop < count; loop++) {
                knitter.castOn(needle + 1, needle + 1);
                knitter.transfer(needle + 1, false);
            }
        };
    }

    /** A shawl of one needle with some courses, which have taken a unit of yarn each. */
    static Setup shawl(int courses) {
        return and(bed(0, 0), yarn(0, 200), tension(1), courses(courses));
    }

    /** A call of which it does not matter whether it throws. */
    static Setup tried(Asking asking) {
        return knitter -> Check.outcome(() -> asking.of(knitter));
    }

    /** Commands that are executed, whatever comes of it. */
    static Setup tried(String commands) {
        return tried(knitter -> Trace.execute(knitter, commands));
    }

    static int countUndos(ShawlKnitter knitter) {
        for (int count = 0; count < 20; count++) {
            if (Check.outcome(knitter::undo).equals("IllegalStateException")) {
                return count;
            }
        }
        return 20;
    }

    static Setup undos(int count) {
        return knitter -> {
            for (int time = 0; time < count; time++) {
                knitter.undo();
            }
        };
    }
}
