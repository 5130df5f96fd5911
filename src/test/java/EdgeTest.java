import java.util.List;

/** Each sentence of the document that names an edge, and that no sentence of the document is left without a test. */
public final class EdgeTest {
    private static final List<String> NOT_TRIED = List.of("BlobHarbor", "The public face", "Not promised");

    public static void main(String[] args) {
        Check check = new Check("EdgeTest");
        Document document = new Document();
        Edges[] groups = {new PartEdges(check, document), new ShardEdges(check, document),
            new KeyEdges(check, document), new RegionEdges(check, document), new ObjectEdges(check, document),
            new UploadEdges(check, document), new ListEdges(check, document), new NodeEdges(check, document),
            new DayEdges(check, document)};
        for (Edges group : groups) {
            group.all();
        }
        for (String heading : document.headings()) {
            if (!NOT_TRIED.contains(heading)) {
                check.is("what no test quotes under " + heading, document.unquoted(heading), "");
            }
        }
        check.end();
    }
}
