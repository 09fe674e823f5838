/** Each sentence of the document that names a boundary, by calls at it and beside it; none may be left out. */
public final class EdgesTest {
    public static void main(String[] args) {
        EdgesOfAnswers.all();
        EdgesOfText.all();
        EdgesOfShape.all();
        EdgesOfRuns.all();
        EdgesOfClasses.all();
        EdgesOfForms.all();
        EdgesOfChanges.all();
        EdgesOfSheets.all();
        Check.due("sections with words that no test names", Document.tellLeftOver(), 0);
        Check.finish();
    }
}
