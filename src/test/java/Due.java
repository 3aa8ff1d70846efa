/** Compares answers with those that are due, tells the wrong ones, and ends the test with exit code 1 if there are any. */
final class Due {
  private int compared = 0;
  private int wrong = 0;

  void is(String what, long got, long want) {
    compared++;
    if (got != want) {
      wrong++;
      System.out.println(what + " answered " + got + ", due is " + want);
    }
  }

  void isTrue(String what, boolean got) {
    is(what, got ? 1 : 0, 1);
  }

  void isFalse(String what, boolean got) {
    is(what, got ? 1 : 0, 0);
  }

  void end() {
    if (compared == 0) {
      System.out.println("nothing was compared");
      System.exit(1);
    }
    System.out.println(wrong == 0 ? compared + " answers are as due" : wrong + " answers are not as due");
    if (wrong != 0) {
      System.exit(1);
    }
  }
}
