/** Each sentence of the document that names an edge has a test of its own: just inside, just outside, empty, full. */
public final class EdgesTest {
    public static void main(String[] args) {
        TermsEdges.all();
        RecordTermsEdges.all();
        LifeEdges.all();
        NamesEdges.all();
        RecordsEdges.all();
        LinksEdges.all();
        OrderEdges.all();
        EmptyAndFullEdges.all();
        Sentences.checkAllQuoted();
        Seen.checkAll(Calls.allOfTheFace());
        Check.finish();
    }
}
