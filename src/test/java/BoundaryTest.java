/** Each sentence of the document that names a boundary case, with calls that would show it broken. */
public final class BoundaryTest {
  private BoundaryTest() {
  }

  public static void main(String[] args) {
    EdgesOfDescription.run();
    EdgesOfCodes.run();
    EdgesOfLetter.run();
    EdgesOfAnswers.run();
    Sentence.end();
    Due.end("BoundaryTest");
  }
}
