/** The boundary cases that the document names: a test for each sentence, which quotes it. */
public final class EdgeTest {
    public static void main(String[] args) {
        Edge edge = new Edge();
        new EdgeTexts(edge).run();
        new EdgeNight(edge).run();
        new EdgeAsk(edge).run();
        edge.end();
    }
}
