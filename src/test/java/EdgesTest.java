import java.nio.file.Files;
import java.nio.file.Path;

/** Each sentence of the document from its "Terms" on has a test of its own; none is left out. */
public final class EdgesTest extends Edges {
    public static void main(String[] args) throws Exception {
        TextEdges.all();
        RunEdges.all();
        FlowEdges.all();
        BreakerEdges.all();
        WatchEdges.all();
        endSentence();
        leave("each sentence holds");
    }
}
