import java.nio.file.Files;
import java.nio.file.Path;

/** Each sentence of the document, from its "Terms" to its last promise, has a test of its own: none is left out. */
public final class EdgesTest extends Edges {
    /** What may stand between two sentences: headings, the number of a part, fences of code, what is called. */
    private static final String BETWEEN = "(\\s|====\\s*\\d\\.|```\\w*|#[^\\n]*\\n|`[^`]*`:)*";

    public static void main(String[] args) throws Exception {
        CallEdges.manyCalls();
        TextEdges.all();
        RunEdges.all();
        FlowEdges.all();
        BreakerEdges.all();
        WatchEdges.all();
        CallEdges.exceptions();
        CallEdges.promises();
        endSentence();
        holdAgainst(Files.readString(Path.of("../shared/DOC.md")));
        leave("each sentence holds");
    }

    /** The sentences stand in the document one behind another, and nothing stands between them. */
    private static void holdAgainst(String document) {
        String face = document.replaceAll("(?s)## The public face.*?```.*?```", "");
        int at = face.indexOf(sentences().get(0));
        int end = face.indexOf("## Not promised");
        for (String words : sentences()) {
            int begin = face.indexOf(words, Math.max(at, 0));
            about("\"" + words + "\"");
            if (begin < 0) {
                fail("it does not stand in the document, or not here");
                return;
            }
            String between = face.substring(at, begin);
            if (!between.matches(BETWEEN)) {
                fail("ahead of it stands what has no test: " + between);
            }
            at = begin + words.length();
        }
        if (end < at || !face.substring(at, end).matches(BETWEEN)) {
            fail("behind it stands what has no test");
        }
    }
}
