import java.io.IOException;

/** Each sentence of the document: its boundary cases, and that none is without a test. */
public final class SentencesTest {
  private SentencesTest() {}

  public static void main(String[] args) throws IOException {
    Sentences s = new Sentences();
    TermSentences.all(s);
    BookSentences.all(s);
    CopySentences.all(s);
    CourtSentences.all(s);
    PageSentences.all(s);
    BalanceSentences.all(s);
    CopyViewSentences.all(s);
    s.end();
    Check.end("SentencesTest");
  }
}
