/**
 * Each sentence of the document that names a boundary case has a test of its own here: at the boundary and at
 * the next value on each side of it. What fails is told with the promise's number and the sentence.
 */
public final class BoundariesTest {
  private BoundariesTest() {
  }

  public static void main(String[] args) {
    EdgesOfTexts.run();
    EdgesOfActs.run();
    EdgesOfAnswers.run();
    EdgesTogether.run();
    Sentences.eachPromiseWasNamed();
    Check.finish();
  }
}
