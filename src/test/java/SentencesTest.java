/** Each sentence of the document, with a test of its own. */
public final class SentencesTest {
    public static void main(String[] arguments) {
        TermsEdges.run();
        CommandEdges.run();
        ReasonEdges.run();
        NeedleEdges.run();
        YarnAndPatternEdges.run();
        KnittingEdges.run();
        CourseEdges.run();
        TextEdges.run();
        HistoryEdges.run();
        OneShawl.run();
        Edge.closeLastSentence();
        Check.finish();
    }
}
