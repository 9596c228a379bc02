/** Each sentence of the document that names a boundary, with a test of its own. */
public final class BoundariesTest {
    public static void main(String[] arguments) {
        TermsEdges.run();
        CommandEdges.run();
        ReasonEdges.run();
        NeedleEdges.run();
        YarnAndPatternEdges.run();
        KnittingEdges.run();
        CourseEdges.run();
        TextEdges.run();
        HistoryEdges.run();
        Edge.closeLastSentence();
        Check.finish();
    }
}
