/** A test for each sentence of the document that names a case at an edge, and for each exception that it names. */
public final class EdgesTest {
    public static void main(String[] args) {
        EdgesOfSamples.all();
        EdgesOfAlignment.all();
        EdgesOfRelations.all();
        EdgesOfTexts.all();
        EdgesOfReading.all();
        EdgesOfFinding.all();
        EdgesOfTalks.all();
        EdgesOfExceptions.all();
        Sentence.dueAll();
        Check.end();
    }
}
