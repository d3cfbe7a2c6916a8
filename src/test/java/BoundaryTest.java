/**
 * The document sentence by sentence: what each one says is tested at its bounds, and that no
 * sentence is without a test.
 */
public final class BoundaryTest {
  public static void main(String[] args) {
    Sentences s = new Sentences();
    new WholeEdges(s).run();
    new DescriptionEdges(s).run();
    new CoderEdges(s).run();
    new ModelEdges(s).run();
    new TextEdges(s).run();
    new PredictorEdges(s).run();
    new CodeEdges(s).run();
    s.end();
  }
}
