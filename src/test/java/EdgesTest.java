/** Every boundary case that the document names, promise by promise; see Edges for how they are told. */
public final class EdgesTest {
    public static void main(String[] args) {
        Edges edges = new Edges();
        EdgesOfTexts.tell(edges);
        EdgesOfNow.tell(edges);
        EdgesOfChoices.tell(edges);
        EdgesOfFacts.tell(edges);
        EdgesOfYears.tell(edges);
        edges.close();
    }
}
