/**
 * Each sentence of ../shared/DOC.md with its place there, the calls and the answers that it asks for. It fails too if
 * words of the document are quoted wrongly, or not at all.
 */
public final class SentencesTest {
    public static void main(String[] args) {
        Sentences doc = new Sentences();
        new FaceEdges(doc).run();
        new PoolEdges(doc).run();
        new NameEdges(doc).run();
        new ClassEdges(doc).run();
        new CodeEdges(doc).run();
        new PromiseEdges(doc).run();
        new ShrinkEdges(doc).run();
        new ReadEdges(doc).run();
        new StateEdges(doc).run();
        doc.finish("SentencesTest");
    }
}
