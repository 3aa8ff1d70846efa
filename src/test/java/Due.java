/** Compares answers with those that are due, tells the wrong ones, and ends with exit code 1 if there are any. */
final class Due {
  private int compared = 0;
  private int wrong = 0;
  private String about = "";

  /** What all that follows is about: it is told before each wrong answer. */
  void about(String what) {
    about = what;
  }

  int compared() {
    return compared;
  }

  void is(String what, long got, long want) {
    compared++;
    if (got != want) {
      tellWrong(what + " answered " + got + ", due is " + want);
    }
  }

  void is(String what, String got, String want) {
    compared++;
    if (!got.equals(want)) {
      tellWrong(what + " answered\n  " + got + ", due is\n  " + want);
    }
  }

  void isTrue(String what, boolean got) {
    is(what, got ? 1 : 0, 1);
  }

  void isFalse(String what, boolean got) {
    is(what, got ? 1 : 0, 0);
  }

  private void tellWrong(String what) {
    wrong++;
    System.out.println(about + what);
  }

  void end() {
    if (compared == 0) {
      System.out.println("nothing was compared");
      System.exit(1);
    }
    System.out.println(wrong == 0 ? compared + " answers are as due" : wrong + " answers are not as due");
    if (wrong != 0) {
      System.exit(1);
    }
  }
}
