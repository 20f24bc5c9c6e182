/** What the tests of boundary sentences have in common. */
final class Edges {
  static final String NO_CODE = "Throws `IndexOutOfBoundsException` if there is no such CODE";
  static final String NO_CODE_OF_BOTH = "Throws `IndexOutOfBoundsException` if there is no such CODE, of both";

  private static final int[] NO_CODES = {-1, 3, 4, Integer.MIN_VALUE, Integer.MAX_VALUE};

  interface OfCode {
    Object answer(Syndromehouse x, int code);
  }

  private Edges() {
  }

  /** A house whose code 0 is made of these rows. */
  static Syndromehouse with(int length, int... words) {
    Syndromehouse x = new Syndromehouse();
    put(x, 0, length, words);
    return x;
  }

  static void put(Syndromehouse x, int code, int length, int... words) {
    x.zero(code, length);
    for (int word : words) {
      x.row(code, word);
    }
  }

  /** A word of all places. */
  static int full(int length) {
    return (1 << length) - 1;
  }

  /** All that can be seen but the counts of -8, -7 and what was refused. */
  static String seen(Syndromehouse x) {
    StringBuilder seen = new StringBuilder();
    for (int what = 0; what <= 3; what++) {
      seen.append(x.house(what)).append(' ').append(x.letter(what)).append(' ');
    }
    for (int code = 0; code < 3; code++) {
      seen.append(x.ofCode(code, 0)).append(':').append(x.text(code)).append(' ');
    }
    return seen.append(x.stream()).toString();
  }

  static void code(String what, Syndromehouse x, int code, int length, String text) {
    Due.is(what + ": LENGTH", x.ofCode(code, 0), length);
    Due.is(what + ": ROWS", x.text(code), text);
    Due.is(what + ": DIMENSION", x.ofCode(code, 1), text.equals("-") ? 0 : text.split(" ").length);
  }

  static void letter(String what, Syndromehouse x, int length, int word, int lost, int doubts) {
    int[] due = {length, word, lost, doubts};
    for (int i = 0; i < due.length; i++) {
      Due.is(what + ": letter(" + i + ")", x.letter(i), due[i]);
    }
  }

  static void index(Syndromehouse x, String what, Due.Call call) {
    unchanged(x, what, () -> Due.index(what, call));
  }

  static void argument(Syndromehouse x, String what, Due.Call call) {
    unchanged(x, what, () -> Due.argument(what, call));
  }

  static void state(Syndromehouse x, String what, Due.Call call) {
    unchanged(x, what, () -> Due.state(what, call));
  }

  /** Each of these words, or numbers, is refused as an argument. */
  static void arguments(Syndromehouse x, String what, OfCode call, int... wrong) {
    for (int each : wrong) {
      argument(x, what + " of " + each, () -> call.answer(x, each));
    }
  }

  static void indices(Syndromehouse x, String what, OfCode call, int... wrong) {
    for (int each : wrong) {
      index(x, what + " of " + each, () -> call.answer(x, each));
    }
  }

  private static void unchanged(Syndromehouse x, String what, Runnable call) {
    long before = x.digest();
    call.run();
    Due.is(what + " changed nothing", x.digest(), before);
  }

  /** Tells a number, is counted under house(4) or house(5), and changes nothing but that. */
  static void told(Syndromehouse x, String what, int due, Due.Call call) {
    String before = seen(x);
    int told8 = x.house(4);
    int told7 = x.house(5);
    Due.is(what, call.answer(), due);
    Due.is(what + " changed nothing", seen(x), before);
    Due.is(what + ", how often -8", x.house(4), told8 + (due == -8 ? 1 : 0));
    Due.is(what + ", how often -7", x.house(5), told7 + (due == -7 ? 1 : 0));
  }

  /** Tells -8, but is none of the calls of which that is counted. */
  static void toldUncounted(Syndromehouse x, String what, Due.Call call) {
    long before = x.digest();
    Due.is(what, call.answer(), -8);
    Due.is(what + " changed nothing, not even counts", x.digest(), before);
  }

  /** The codes 0 and 2 are there, those below and above are not. */
  static void noCode(int promise, OfCode call) {
    Sentence.of(promise, NO_CODE);
    noCodeAsNamed(call);
  }

  static void noCodeOfBoth(int promise, OfCode first, OfCode second) {
    Sentence.of(promise, NO_CODE_OF_BOTH);
    noCodeAsNamed(first);
    noCodeAsNamed(second);
  }

  static void noCodeAsNamed(OfCode call) {
    for (int code = 0; code < 3; code++) {
      int there = code;
      Syndromehouse x = new Syndromehouse();
      Object answer = Due.outcome(() -> call.answer(x, there));
      Due.is("CODE " + code + " is there", answer.toString().startsWith("throws"), false);
    }
    indices(new Syndromehouse(), "CODE", call, NO_CODES);
  }
}
