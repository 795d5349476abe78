/** Counts answers that are due and tells those that are not; each test's main ends with finish(). */
final class Due {
  interface Call {
    long answer();
  }

  interface Measure {
    double answer();
  }

  static final Class<? extends RuntimeException> INDEX = IndexOutOfBoundsException.class;
  static final Class<? extends RuntimeException> ARGUMENT = IllegalArgumentException.class;
  static final Class<? extends RuntimeException> STATE = IllegalStateException.class;
  static final Class<? extends RuntimeException> REFUSED = UnsupportedOperationException.class;
  static final Class<? extends RuntimeException> ABSENT = java.util.NoSuchElementException.class;
  static final Class<? extends RuntimeException> ARITHMETIC = ArithmeticException.class;

  private int right = 0;
  private int wrong = 0;

  private void tell(boolean isRight, String what) {
    if (isRight) {
      right++;
    } else {
      wrong++;
      System.out.println(what);
    }
  }

  void isTrue(String what, boolean isRight) {
    tell(isRight, what + " does not hold");
  }

  void answers(String what, long due, Call call) {
    try {
      long got = call.answer();
      tell(got == due, what + " answered " + got + ", due is " + due);
    } catch (RuntimeException thrown) {
      tell(false, what + " threw " + thrown + ", due is " + due);
    }
  }

  void measures(String what, double due, Measure call) {
    try {
      double got = call.answer();
      tell(got == due, what + " answered " + got + ", due is " + due);
    } catch (RuntimeException thrown) {
      tell(false, what + " threw " + thrown + ", due is " + due);
    }
  }

  /** The very class is due, not one below it. */
  void fails(String what, Class<? extends RuntimeException> due, Call call) {
    try {
      long got = call.answer();
      tell(false, what + " answered " + got + ", due is " + due.getName());
    } catch (RuntimeException thrown) {
      tell(thrown.getClass() == due, what + " threw " + thrown + ", due is " + due.getName());
    }
  }

  void finish() {
    System.out.println(right + " answers as due, " + wrong + " not");
    if (wrong != 0 || right == 0) {
      System.exit(1);
    }
  }
}
