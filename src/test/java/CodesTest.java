/** Promises 1 to 16: a new object, and the calls that make codes. */
public final class CodesTest {
  private CodesTest() {
  }

  public static void main(String[] args) {
    newObject();
    zero();
    all();
    row();
    check();
    shifts();
    evaluated();
    longer();
    shorter();
    pierce();
    join();
    multiply();
    turn();
    blend();
    move();
    copy();
    wrongCodes();
    Due.end("CodesTest");
  }

  /** A house whose code 0 has these rows. */
  private static Syndromehouse with(int length, int... words) {
    Syndromehouse x = new Syndromehouse();
    put(x, 0, length, words);
    return x;
  }

  private static void put(Syndromehouse x, int code, int length, int... words) {
    x.zero(code, length);
    for (int word : words) {
      x.row(code, word);
    }
  }

  private static void shape(String what, Syndromehouse x, int code, int length, String text) {
    Due.is(what + ": LENGTH", x.ofCode(code, 0), length);
    Due.is(what + ": text", x.text(code), text);
  }

  private static void newObject() {
    Syndromehouse x = new Syndromehouse();
    for (int code = 0; code < 3; code++) {
      shape("new CODE " + code, x, code, 1, "-");
      Due.is("new DIMENSION", x.ofCode(code, 1), 0);
    }
    int[] letter = {1, 0, 0, 1};
    for (int what = 0; what < letter.length; what++) {
      Due.is("new letter(" + what + ")", x.letter(what), letter[what]);
    }
    int[] house = {0, 7, 5, 0, 0, 0, 0};
    for (int what = 0; what < house.length; what++) {
      Due.is("new house(" + what + ")", x.house(what), house[what]);
    }
    Due.is("new stream()", x.stream(), "-");
    Due.is("new digest()", x.digest(), -9022309173402744858L);
  }

  private static void zero() {
    Syndromehouse x = new Syndromehouse();
    Due.is("zero of new", x.zero(0, 5), 0);
    shape("zero(0, 5)", x, 0, 5, "-");
    x.all(0, 3);
    Due.is("zero of all", x.zero(0, 9), 3);
    shape("zero(0, 9)", x, 0, 9, "-");
    Due.is("zero of zero", x.zero(0, 1), 0);
    shape("zero(0, 1)", x, 0, 1, "-");
    shape("another one", x, 1, 1, "-");
    Due.is("steps", x.house(0), 4);
    Due.argument("zero(0, 0)", () -> x.zero(0, 0));
    Due.argument("zero(0, 10)", () -> x.zero(0, 10));
    Due.argument("zero(0, -1)", () -> x.zero(0, -1));
    Due.index("zero(3, 10)", () -> x.zero(3, 10));
    shape("behind exceptions", x, 0, 1, "-");
    Due.is("steps behind exceptions", x.house(0), 4);
  }

  private static void all() {
    Syndromehouse x = new Syndromehouse();
    Due.is("all of new", x.all(1, 9), 0);
    Due.is("DIMENSION of all", x.ofCode(1, 1), 9);
    Due.is("last WORD", x.nth(1, 511), 511);
    Due.is("all of all", x.all(1, 1), 9);
    shape("all(1, 1)", x, 1, 1, "1");
    x.all(1, 3);
    shape("all(1, 3)", x, 1, 3, "100 010 001");
    Due.is("steps", x.house(0), 3);
    Due.argument("all(1, 0)", () -> x.all(1, 0));
    Due.argument("all(1, 10)", () -> x.all(1, 10));
    Due.argument("all(1, MIN)", () -> x.all(1, Integer.MIN_VALUE));
    Due.index("all(-1, 0)", () -> x.all(-1, 0));
    shape("behind exceptions", x, 1, 3, "100 010 001");
  }

  private static void row() {
    Syndromehouse x = with(4);
    Due.is("row(0, 6)", x.row(0, 6), 1);
    shape("one row", x, 0, 4, "0110");
    Due.is("row(0, 3)", x.row(0, 3), 2);
    shape("reduced", x, 0, 4, "1010 0110");
    Due.is("a SUM that is there", x.row(0, 5), 2);
    Due.is("0 is there", x.row(0, 0), 2);
    shape("as before", x, 0, 4, "1010 0110");
    Due.is("row(0, 15)", x.row(0, 15), 3);
    shape("three rows", x, 0, 4, "1001 0101 0011");
    Due.is("its fifth WORD", x.nth(0, 4), 9);
    Due.is("row(0, 8)", x.row(0, 8), 4);
    shape("four rows", x, 0, 4, "1000 0100 0010 0001");
    Due.is("steps count what changes nothing, too", x.house(0), 7);
    Due.argument("row(0, 16)", () -> x.row(0, 16));
    Due.argument("row(0, -1)", () -> x.row(0, -1));
    Due.argument("row(0, MIN)", () -> x.row(0, Integer.MIN_VALUE));
    Due.index("row(3, -1)", () -> x.row(3, -1));
    Due.is("steps behind exceptions", x.house(0), 7);
  }

  private static void check() {
    Syndromehouse x = new Syndromehouse();
    x.all(0, 4);
    Due.is("check(0, 15)", x.check(0, 15), 3);
    shape("even WORDS", x, 0, 4, "1001 0101 0011");
    Due.is("again", x.check(0, 15), 3);
    Due.is("all are SQUARE TO 0", x.check(0, 0), 3);
    Due.is("check(0, 1)", x.check(0, 1), 2);
    shape("even WORDS without 0", x, 0, 4, "0101 0011");
    Due.is("check(0, 6)", x.check(0, 6), 1);
    shape("SQUARE TO 6", x, 0, 4, "0110");
    Due.is("check(0, 2)", x.check(0, 2), 0);
    shape("0 alone", x, 0, 4, "-");
    Due.is("0 stays", x.check(0, 2), 0);
    Due.argument("check(0, 16)", () -> x.check(0, 16));
    Due.argument("check(0, -1)", () -> x.check(0, -1));
    Due.index("check(-1, 16)", () -> x.check(-1, 16));
    Due.is("steps", x.house(0), 8);
  }

  private static void shifts() {
    Syndromehouse x = new Syndromehouse();
    Due.is("Hamming's", x.shifts(0, 7, 11), 4);
    shape("Hamming's", x, 0, 7, "1000110 0100011 0010111 0001101");
    Due.is("shifts(0, 4, 6)", x.shifts(0, 4, 6), 2);
    shape("no shift wraps", x, 0, 4, "0101 0011");
    Due.is("shifts(0, 9, 1)", x.shifts(0, 9, 1), 9);
    Due.is("shifts(0, 9, 256)", x.shifts(0, 9, 256), 1);
    shape("the last PLACE", x, 0, 9, "000000001");
    Due.is("shifts(0, 9, 511)", x.shifts(0, 9, 511), 1);
    Due.is("shifts(0, 1, 1)", x.shifts(0, 1, 1), 1);
    shape("shifts(0, 1, 1)", x, 0, 1, "1");
    Due.argument("polynomial 0", () -> x.shifts(0, 3, 0));
    Due.argument("polynomial above LENGTH", () -> x.shifts(0, 3, 8));
    Due.argument("polynomial below 0", () -> x.shifts(0, 3, -1));
    Due.argument("length 0", () -> x.shifts(0, 0, 1));
    Due.argument("length 10", () -> x.shifts(0, 10, 1));
    Due.index("shifts(3, 0, 0)", () -> x.shifts(3, 0, 0));
    shape("behind exceptions", x, 0, 1, "1");
    Due.is("steps", x.house(0), 6);
  }

  private static void evaluated() {
    Syndromehouse x = new Syndromehouse();
    int[][] dimensions = {{1}, {1, 2}, {1, 3, 4}, {1, 4, 7, 8}};
    for (int m = 0; m <= 3; m++) {
      for (int r = 0; r <= m; r++) {
        Due.is("evaluated(2, " + m + ", " + r + ")", x.evaluated(2, m, r), dimensions[m][r]);
        Due.is("LENGTH of it", x.ofCode(2, 0), 1 << m);
        Due.is("DISTANCE of it", x.ofCode(2, 2), 1 << m - r);
      }
    }
    x.evaluated(2, 2, 1);
    shape("evaluated(2, 2, 1)", x, 2, 4, "1001 0101 0011");
    x.evaluated(2, 3, 0);
    shape("evaluated(2, 3, 0)", x, 2, 8, "11111111");
    x.evaluated(2, 0, 0);
    shape("evaluated(2, 0, 0)", x, 2, 1, "1");
    Due.argument("m 4", () -> x.evaluated(2, 4, 0));
    Due.argument("m -1", () -> x.evaluated(2, -1, -1));
    Due.argument("r above m", () -> x.evaluated(2, 2, 3));
    Due.argument("r -1", () -> x.evaluated(2, 2, -1));
    Due.index("evaluated(3, 4, 5)", () -> x.evaluated(3, 4, 5));
    shape("behind exceptions", x, 2, 1, "1");
  }

  private static void longer() {
    Syndromehouse x = new Syndromehouse();
    x.shifts(0, 7, 11);
    Due.is("longer(0)", x.longer(0), 8);
    shape("longer", x, 0, 8, "10001101 01000111 00101110 00011011");
    Due.is("DISTANCE", x.ofCode(0, 2), 4);
    Due.is("longer again", x.longer(0), 9);
    shape("nothing odd", x, 0, 9, "100011010 010001110 001011100 000110110");
    int steps = x.house(0);
    Due.is("above 9", x.longer(0), -8);
    Due.is("no step", x.house(0), steps);
    Due.is("-8 counted", x.house(4), 1);
    Due.is("LENGTH as before", x.ofCode(0, 0), 9);
    Due.is("longer(1)", x.longer(1), 2);
    shape("0 alone", x, 1, 2, "-");
  }

  private static void shorter() {
    Syndromehouse x = with(3, 3, 6);
    Due.is("shorter(0, 1)", x.shorter(0, 1), 1);
    shape("WORDS without it", x, 0, 2, "11");
    put(x, 0, 4, 1, 6);
    Due.is("the first PLACE", x.shorter(0, 0), 1);
    shape("PLACES are 1 less", x, 0, 3, "110");
    Due.is("a PLACE that none has", x.shorter(0, 2), 1);
    shape("all stay", x, 0, 2, "11");
    Due.is("the last PLACE", x.shorter(0, 1), 0);
    shape("none stays", x, 0, 1, "-");
    int steps = x.house(0);
    Due.is("LENGTH 1", x.shorter(0, 0), -8);
    Due.is("no step", x.house(0), steps);
    Due.is("-8 counted", x.house(4), 1);
    Due.index("no PLACE goes ahead of -8", () -> x.shorter(0, 1));
    Due.index("PLACE -1", () -> x.shorter(0, -1));
    Due.is("not counted", x.house(4), 1);
  }

  private static void pierce() {
    Syndromehouse x = with(3, 3, 6);
    Due.is("pierce(0, 1)", x.pierce(0, 1), 2);
    shape("all WORDS", x, 0, 2, "10 01");
    put(x, 0, 4, 1, 6);
    Due.is("a WORD of just that PLACE", x.pierce(0, 0), 1);
    shape("PLACES are 1 less", x, 0, 3, "110");
    Due.is("the last PLACE", x.pierce(0, 2), 1);
    shape("all stay", x, 0, 2, "11");
    Due.is("to LENGTH 1", x.pierce(0, 0), 1);
    shape("to LENGTH 1", x, 0, 1, "1");
    int steps = x.house(0);
    Due.is("LENGTH 1", x.pierce(0, 0), -8);
    Due.is("no step", x.house(0), steps);
    Due.is("-8 counted", x.house(4), 1);
    Due.index("no PLACE goes ahead of -8", () -> x.pierce(0, 1));
    Due.index("PLACE -1", () -> x.pierce(0, -1));
  }

  private static void join() {
    Syndromehouse x = with(2, 3);
    put(x, 1, 3, 5);
    Due.is("join(0, 1)", x.join(0, 1), 2);
    shape("joined", x, 0, 5, "11000 00101");
    shape("the other one stays", x, 1, 3, "101");
    Due.is("with itself", x.join(1, 1), 2);
    shape("with itself", x, 1, 6, "101000 000101");
    int steps = x.house(0);
    Due.is("11 PLACES", x.join(0, 1), -8);
    x.zero(2, 5);
    Due.is("10 PLACES", x.join(0, 2), -8);
    Due.is("-8 is no step", x.house(0), steps + 1 > 10 ? 10 : steps + 1);
    Due.is("-8 counted", x.house(4), 2);
    x.all(2, 4);
    Due.is("9 PLACES", x.join(0, 2), 6);
    shape("9 PLACES", x, 0, 9, "110000000 001010000 000001000 000000100 000000010 000000001");
  }

  private static void multiply() {
    Syndromehouse x = with(2, 1);
    put(x, 1, 3, 7);
    Due.is("multiply(0, 1)", x.multiply(0, 1), 1);
    shape("PLACES are i + LENGTH * j", x, 0, 6, "101010");
    put(x, 0, 2, 1);
    Due.is("multiply(1, 0)", x.multiply(1, 0), 1);
    shape("the other way", x, 1, 6, "111000");
    put(x, 0, 3, 3, 6);
    Due.is("with itself", x.multiply(0, 0), 4);
    shape("with itself", x, 0, 9, "101000101 011000011 000101101 000011011");
    Due.is("DISTANCES are multiplied", x.ofCode(0, 2), 4);
    int told = x.house(4);
    x.zero(1, 2);
    x.all(2, 5);
    int steps = x.house(0);
    Due.is("10 PLACES", x.multiply(1, 2), -8);
    Due.is("18 PLACES", x.multiply(0, 1), -8);
    Due.is("-8 is no step", x.house(0), steps);
    Due.is("-8 counted", x.house(4), told + 2);
    x.all(2, 4);
    Due.is("0 alone", x.multiply(1, 2), 0);
    shape("0 alone", x, 1, 8, "-");
  }

  private static void turn() {
    Syndromehouse x = new Syndromehouse();
    x.shifts(0, 7, 11);
    Due.is("turn(0)", x.turn(0), 3);
    shape("the OTHER CODE", x, 0, 7, "1001011 0101110 0010111");
    Due.is("its DISTANCE", x.ofCode(0, 2), 4);
    Due.is("turned back", x.turn(0), 4);
    shape("turned back", x, 0, 7, "1000110 0100011 0010111 0001101");
    Due.is("of 0 alone", x.turn(1), 1);
    shape("of 0 alone", x, 1, 1, "1");
    put(x, 2, 4, 6);
    Due.is("of one", x.turn(2), 3);
    shape("of one", x, 2, 4, "1000 0110 0001");
  }

  private static void blend() {
    Syndromehouse x = with(4, 3, 12);
    put(x, 1, 4, 15, 5);
    x.copy(2, 0);
    Due.is("common", x.blend(0, 1, true), 1);
    shape("common", x, 0, 4, "1111");
    Due.is("SUMS", x.blend(2, 1, false), 3);
    shape("SUMS", x, 2, 4, "1001 0101 0011");
    shape("the other one stays", x, 1, 4, "1010 0101");
    Due.is("common with itself", x.blend(1, 1, true), 2);
    Due.is("SUMS with itself", x.blend(1, 1, false), 2);
    shape("as before", x, 1, 4, "1010 0101");
    x.zero(2, 4);
    Due.is("SUMS with 0 alone", x.blend(1, 2, false), 2);
    Due.is("common with 0 alone", x.blend(1, 2, true), 0);
    x.zero(2, 5);
    int steps = x.house(0);
    Due.is("unlike LENGTHS", x.blend(0, 2, true), -8);
    Due.is("unlike LENGTHS, SUMS", x.blend(0, 2, false), -8);
    Due.is("-8 is no step", x.house(0), steps);
    Due.is("-8 counted", x.house(4), 2);
  }

  private static void move() {
    Syndromehouse x = with(3, 3);
    Due.is("move(0, 0, 2)", x.move(0, 0, 2), 1);
    shape("moved", x, 0, 3, "011");
    Due.is("move(0, 1, 0)", x.move(0, 1, 0), 1);
    shape("moved again", x, 0, 3, "101");
    Due.is("the same CODE", x.move(0, 2, 0), 0);
    Due.is("the same PLACE", x.move(0, 1, 1), 0);
    shape("as before", x, 0, 3, "101");
    Due.is("steps count, too", x.house(0), 6);
    Due.index("PLACE 3", () -> x.move(0, 3, 0));
    Due.index("other PLACE 3", () -> x.move(0, 0, 3));
    Due.index("PLACE -1", () -> x.move(0, -1, 0));
    Due.index("other PLACE -1", () -> x.move(0, 0, -1));
    Due.is("steps behind exceptions", x.house(0), 6);
  }

  private static void copy() {
    Syndromehouse x = with(4, 3, 12);
    Due.is("copy(2, 0)", x.copy(2, 0), 2);
    shape("copied", x, 2, 4, "1100 0011");
    x.row(2, 1);
    shape("the first one stays", x, 0, 4, "1100 0011");
    Due.is("of itself", x.copy(0, 0), 2);
    shape("of itself", x, 0, 4, "1100 0011");
    Due.is("over another LENGTH", x.copy(2, 1), 0);
    shape("over another LENGTH", x, 2, 1, "-");
    Due.is("steps", x.house(0), 7);
  }

  private static void wrongCodes() {
    Syndromehouse x = new Syndromehouse();
    for (int code : new int[] {-1, 3, Integer.MIN_VALUE, Integer.MAX_VALUE}) {
      Due.index("zero", () -> x.zero(code, 1));
      Due.index("all", () -> x.all(code, 1));
      Due.index("row", () -> x.row(code, 0));
      Due.index("check", () -> x.check(code, 0));
      Due.index("shifts", () -> x.shifts(code, 1, 1));
      Due.index("evaluated", () -> x.evaluated(code, 0, 0));
      Due.index("longer", () -> x.longer(code));
      Due.index("shorter", () -> x.shorter(code, 0));
      Due.index("pierce", () -> x.pierce(code, 0));
      Due.index("join", () -> x.join(code, 0));
      Due.index("join to other", () -> x.join(0, code));
      Due.index("multiply", () -> x.multiply(code, 0));
      Due.index("multiply by other", () -> x.multiply(0, code));
      Due.index("turn", () -> x.turn(code));
      Due.index("blend", () -> x.blend(code, 0, true));
      Due.index("blend with other", () -> x.blend(0, code, false));
      Due.index("move", () -> x.move(code, 0, 0));
      Due.index("copy", () -> x.copy(code, 0));
      Due.index("copy from other", () -> x.copy(0, code));
    }
    Due.is("nothing changed", x.digest(), new Syndromehouse().digest());
  }
}
