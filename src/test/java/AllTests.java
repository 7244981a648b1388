/** Runs all tests of the project; ends with exit code 1 if an answer is not as due. */
public final class AllTests {
  private AllTests() {}

  public static void main(String[] args) {
    FaceTests.run();
    ActTests.run();
    PossibleTests.run();
    StrictTests.run();
    TickTests.run();
    HearingTests.run();
    CommitmentTests.run();
    QuarrelTests.run();
    QuestionTests.run();
    OfferTests.run();
    AskingTests.run();
    RandomRunTests.run();
    TermEdgeTests.run();
    TurnEdgeTests.run();
    TickEdgeTests.run();
    TellingEdgeTests.run();
    SayingEdgeTests.run();
    AskingEdgeTests.run();
    SentenceTests.run();
    ReadmeTests.run();
    Check.close();
  }
}
