import java.util.ArrayList;
import java.util.List;

/** What can be asked of a knitter after a call: each kind of it of a knitter of its own that has come the same way. */
final class Trace {
    static final int NOTHING = -1;
    static final int SYNTAX_ERROR = 2;
    static final int REJECTION = 3;

    private static final String[] KINDS = {"the data", "the output", "the latest syntax error", "the latest rejection",
        "the changes that can be undone", "the snapshot", "the input"};
    private static final Edge.Asking IDLE = knitter -> 0;

    private Trace() {
    }

    static ShawlKnitter come(Edge.Setup setup) {
        ShawlKnitter knitter = new ShawlKnitter();
        try {
            setup.on(knitter);
        } catch (Exception e) {
            throw new IllegalStateException(Check.subject() + ": the way to the question is closed", e);
        }
        return knitter;
    }

    static int execute(ShawlKnitter knitter, String commands) {
        View.type(knitter, commands);
        return knitter.execute();
    }

    /** After the call all is as without it, but for one kind, which is told. */
    static void sameAfter(String call, Edge.Setup setup, Edge.Asking asking, int kind, String due) {
        sameAfterExecute(call, Edge.and(setup, Trace::typeIfRoom), asking, kind, due);
    }

    /** The same for a call which has typed the input itself, and has emptied it. */
    static void sameAfterExecute(String call, Edge.Setup setup, Edge.Asking asking, int kind, String due) {
        compare(call, setup, asking, kind, due);
        compare(call, Edge.and(Trace::leaveTraces, setup), asking, kind, due);
    }

    static void sameAfterUnprepared(String call, Edge.Setup setup, Edge.Asking asking) {
        compare(call, Edge.and(setup, Trace::typeIfRoom), asking, NOTHING, "");
    }

    private static void compare(String call, Edge.Setup setup, Edge.Asking asking, int kind, String due) {
        List<String> without = after(setup, IDLE);
        List<String> with = after(setup, asking);
        for (int at = 0; at < KINDS.length; at++) {
            Check.same("after " + call + " " + KINDS[at], at == kind ? due : without.get(at), with.get(at));
        }
    }

    /** A call that wipes or replaces one of these shows. */
    private static void leaveTraces(ShawlKnitter knitter) {
        Check.outcome(knitter::castOff);
        Check.outcome(() -> execute(knitter, "x;"));
        knitter.addYarn(3, 1);
        knitter.saveSnapshot();
        knitter.undo();
        knitter.writeBed();
    }

    private static void typeIfRoom(ShawlKnitter knitter) {
        Check.outcome(() -> knitter.appendInput('t'));
    }

    private static List<String> after(Edge.Setup setup, Edge.Asking asking) {
        List<String> trace = new ArrayList<>();
        for (Edge.Asking view : List.<Edge.Asking>of(View::ofData, View::ofOutput, View::ofSyntaxError,
                View::ofRejection, View::ofHistory, View::ofSnapshot, View::ofInput)) {
            ShawlKnitter knitter = come(setup);
            Check.outcome(() -> asking.of(knitter));
            trace.add(Check.outcome(() -> view.of(knitter)));
        }
        return trace;
    }
}
