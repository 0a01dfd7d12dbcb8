/** Counts and prints the calls whose answer is not the one that is due. */
final class Due {
  private final String test;
  private String sentence = "";
  private int asked = 0;
  private int wrong = 0;

  Due(String test) {
    this.test = test;
  }

  /** The document's words that the next answers are due by; they are printed with an answer that is wrong. */
  void says(String words) {
    sentence = "'" + words + "': ";
  }

  void is(String call, long got, long want) {
    asked++;
    if (got == want) return;
    wrong++;
    System.out.println(test + ": " + sentence + call + " answered " + got + ", due is " + want);
  }

  void isTrue(String what, boolean holds) {
    is(what, holds ? 1 : 0, 1);
  }

  int wrong() {
    return wrong;
  }

  void end() {
    System.out.println(test + ": " + asked + " answers, " + wrong + " of them wrong");
    if (wrong != 0) System.exit(1);
  }
}
