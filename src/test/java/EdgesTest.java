/** Each sentence of the document in a test of its own, at its boundaries; none is left out. */
public final class EdgesTest {
    public static void main(String[] args) {
        EdgesOfTerms.all();
        EdgesOfWords.all();
        EdgesOfTape.all();
        EdgesOfDoors.all();
        EdgesOfLessons.all();
        EdgesOfFooling.all();
        EdgesOfTwins.all();
        EdgesOfCourses.all();
        EdgesOfState.all();
        Edges.finish();
    }
}
