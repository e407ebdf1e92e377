/** Each sentence of the document that names an edge, with a test of its own. */
public final class EdgesTest {
    private EdgesTest() { }

    public static void main(String[] args) {
        Story.run();
        EdgesOfPeople.run();
        EdgesOfTexts.run();
        EdgesOfLayings.run();
        EdgesOfMonths.run();
        EdgesOfBands.run();
        EdgesOfHost.run();
        Doc.everySentenceIsNamed();
        Check.end();
    }
}
