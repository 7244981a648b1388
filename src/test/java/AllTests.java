/** Runs all tests of the project; ends with exit code 1 if an answer is not as due. */
public final class AllTests {
  private AllTests() {}

  public static void main(String[] args) {
    FaceTests.run();
    TellingTests.run();
    ArgumentTests.run();
    PossibleTests.run();
    StrictTests.run();
    TickTests.run();
    HearingTests.run();
    CommitmentTests.run();
    QuarrelTests.run();
    QuestionTests.run();
    OfferTests.run();
    AskingTests.run();
    RandomRunTests.run();
    Check.close();
  }
}
