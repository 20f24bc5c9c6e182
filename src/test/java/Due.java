/** Counts and prints the answers that are not the ones that are due. */
final class Due {
  interface Call {
    Object answer();
  }

  private static int asked = 0;
  private static int wrong = 0;
  private static String about = "";

  private Due() {
  }

  /** What stands ahead of each line that is printed from here on. */
  static void about(String what) {
    about = what.isEmpty() ? "" : what + ": ";
  }

  static int asked() {
    return asked;
  }

  static void is(String what, Object got, Object want) {
    asked++;
    if (!want.equals(got)) {
      wrong++;
      System.out.println(about + what + " answered " + got + ", due is " + want);
    }
  }

  static void index(String what, Call call) {
    is(what, outcome(call), "throws IndexOutOfBoundsException");
  }

  static void argument(String what, Call call) {
    is(what, outcome(call), "throws IllegalArgumentException");
  }

  static void state(String what, Call call) {
    is(what, outcome(call), "throws IllegalStateException");
  }

  /** The answer, or the name of what was thrown. */
  static Object outcome(Call call) {
    try {
      return call.answer();
    } catch (RuntimeException e) {
      // The class itself, not one below it: ArrayIndexOutOfBoundsException would be the machine's.
      return "throws " + e.getClass().getSimpleName();
    }
  }

  /** Ends the program: 1 if an answer was wrong. */
  static void end(String name) {
    System.out.println(name + ": " + asked + " answers, " + wrong + " of them wrong");
    System.exit(wrong == 0 && asked > 0 ? 0 : 1);
  }
}
