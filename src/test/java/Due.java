/** Counts answers that are not as due, and ends a test. */
final class Due {
  private int wrong = 0;
  private int looked = 0;

  void is(String what, long got, long want) {
    looked++;
    if (got != want) { wrong(what + " answered " + got + ", due is " + want); }
  }

  void holds(String what, boolean holds) {
    looked++;
    if (!holds) { wrong(what); }
  }

  void wrong(String what) {
    wrong++;
    if (wrong <= 5) { System.out.println(what); }
  }

  boolean any() { return wrong > 0; }

  void end() {
    System.out.println(wrong == 0 ? "all answers are as due" + (looked == 0 ? "" : " (" + looked + ")") : wrong + " answers are not as due");
    if (wrong != 0) { System.exit(1); }
  }
}
