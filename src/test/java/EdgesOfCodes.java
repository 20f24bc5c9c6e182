import java.util.List;

/** The boundary sentences of promises 1 to 16: a new object, and what makes codes. */
final class EdgesOfCodes {
  private static final String NO_LENGTH = "Throws `IllegalArgumentException` if length is not 1 to 9";
  private static final String NO_WORD = "Throws `IllegalArgumentException` if word is no WORD of its LENGTH";
  private static final String NO_PLACE = "Throws `IndexOutOfBoundsException` if there is no such CODE, or PLACE of it";
  private static final int[] NO_LENGTHS = {0, 10, -1, 33, Integer.MIN_VALUE, Integer.MAX_VALUE};

  private EdgesOfCodes() {
  }

  static void run() {
    newObject();
    zero();
    all();
    row();
    check();
    shifts();
    evaluated();
    longer();
    shorter();
    pierce();
    join();
    multiply();
    turn();
    blend();
    move();
    copy();
  }

  private static void newObject() {
    Sentence.of(1, "Creates three CODES with the WORD 0 alone.");
    Syndromehouse x = new Syndromehouse();
    for (int code = 0; code < 3; code++) {
      int it = code;
      Due.is("WORD 0", x.nth(it, 0), 0);
      Edges.index(x, "another WORD", () -> x.nth(it, 1));
      Due.is("LENGTH", x.ofCode(it, 0), 1);
    }
    Edges.index(x, "a fourth CODE", () -> x.nth(3, 0));
    Edges.state(x, "a step to undo", () -> x.undo());
    Syndromehouse other = new Syndromehouse();
    other.all(0, 9);
    other.send(1, 1);
    other.hear(9, 511);
    other.knock();
    Due.is("another object is another one", x.digest(), new Syndromehouse().digest());
  }

  /** Words of length places are let from 0 to all places, none above and none below. */
  private static void noWord(int promise, Edges.OfCode call) {
    Sentence.of(promise, NO_WORD);
    for (int length = 1; length <= 9; length++) {
      Syndromehouse x = new Syndromehouse();
      x.zero(0, length);
      Edges.arguments(x, "LENGTH " + length, call, 1 << length, -1, Integer.MIN_VALUE, Integer.MAX_VALUE,
          1 << length | 1, 1 << 31 | 1);
      for (int word : new int[] {0, 1, 1 << length - 1, Edges.full(length)}) {
        Object answer = Due.outcome(() -> call.answer(x, word));
        Due.is("the WORD " + word + " of " + length, answer instanceof Integer, true);
      }
    }
    Syndromehouse y = new Syndromehouse();
    y.zero(1, 9);
    y.hear(9, 0);
    Edges.arguments(y, "LENGTH of another one", call, 2);
  }

  private static void zero() {
    Edges.noCode(2, (x, code) -> x.zero(code, 1));
    Sentence.of(2, NO_LENGTH);
    Edges.arguments(Edges.with(4, 5, 9), "LENGTH", (x, length) -> x.zero(0, length), 0, 10, -1, 33);
    Edges.arguments(Edges.with(4, 5, 9), "LENGTH", (x, length) -> x.zero(0, length), NO_LENGTHS);
    Sentence.of(2, "A CODE of just the WORD 0.");
    for (int length = 1; length <= 9; length++) {
      Syndromehouse x = Edges.with(10 - length, Edges.full(10 - length));
      Due.is("LENGTH " + length, x.zero(0, length), 1);
      Edges.code("LENGTH " + length, x, 0, length, "-");
    }
    forgets();
    Sentence.of(2, "Returns DIMENSION that it had.");
    Syndromehouse x = new Syndromehouse();
    Due.is("0 at first", x.zero(0, 9), 0);
    x.all(0, 9);
    Due.is("full before", x.zero(0, 1), 9);
    Due.is("empty before", x.zero(0, 1), 0);
  }

  private static List<Due.Call> changes(Syndromehouse x) {
    return List.of(() -> x.row(0, 0), () -> x.check(0, 0), () -> x.longer(0), () -> x.shorter(0, 0),
        () -> x.pierce(0, 0), () -> x.join(0, 1), () -> x.join(1, 0), () -> x.multiply(0, 1), () -> x.multiply(1, 0),
        () -> x.turn(0), () -> x.blend(0, 0, true), () -> x.blend(0, 0, false), () -> x.move(0, 0, 3),
        () -> x.copy(0, 0), () -> x.say(0, 0), () -> x.like(0, 0), () -> x.ways(0), () -> x.text(0));
  }

  /** A CODE of just the WORD 0 is as one that never had another one. */
  private static void forgets() {
    for (int i = 0; i < changes(new Syndromehouse()).size(); i++) {
      Syndromehouse x = new Syndromehouse();
      for (int again = 0; again < 3; again++) {
        x.all(0, 4);
        x.zero(0, 4);
        x.zero(0, 4);
      }
      Syndromehouse other = Edges.with(4);
      for (int again = 0; again < 8; again++) {
        other.zero(0, 4);
      }
      Due.is("change " + i, changes(x).get(i).answer(), changes(other).get(i).answer());
      Due.is("changed " + i, Edges.seen(x), Edges.seen(other));
    }
  }

  private static void all() {
    Edges.noCode(3, (x, code) -> x.all(code, 1));
    Sentence.of(3, NO_LENGTH);
    Edges.arguments(Edges.with(4, 5, 9), "LENGTH", (x, length) -> x.all(0, length), NO_LENGTHS);
    Sentence.of(3, "A CODE of all WORDS.");
    for (int length = 1; length <= 9; length++) {
      Syndromehouse x = new Syndromehouse();
      x.all(0, length);
      Due.is("LENGTH " + length, x.ofCode(0, 0), length);
      Due.is("DIMENSION " + length, x.ofCode(0, 1), length);
      Due.is("the last one of " + length, x.nth(0, Edges.full(length)), Edges.full(length));
    }
    Sentence.of(3, "Returns DIMENSION that it had.");
    Syndromehouse x = new Syndromehouse();
    Due.is("0 at first", x.all(0, 9), 0);
    Due.is("full before", x.all(0, 1), 9);
    Due.is("one before", x.all(0, 1), 1);
  }

  private static void row() {
    Edges.noCode(4, (x, code) -> x.row(code, 0));
    noWord(4, (x, word) -> x.row(0, word));
    Sentence.of(4, "A WORD, and its SUMS with all that are there, come to a CODE.");
    Syndromehouse x = Edges.with(9);
    Due.is("0 brings nothing", x.row(0, 0), 0);
    for (int place = 8; place >= 0; place--) {
      Due.is("one more", x.row(0, 511 & -1 << place), 9 - place);
      Due.is("not once more", x.row(0, 511 & -1 << place), 9 - place);
    }
    Due.is("full", x.row(0, 341), 9);
    Due.is("all are there", x.nth(0, 511), 511);
  }

  private static void check() {
    Edges.noCode(5, (x, code) -> x.check(code, 0));
    noWord(5, (x, word) -> x.check(0, word));
    Sentence.of(5, "All WORDS that are not SQUARE TO one go from a CODE.");
    Syndromehouse x = new Syndromehouse();
    x.all(0, 9);
    Due.is("none goes by 0", x.check(0, 0), 9);
    for (int place = 0; place < 9; place++) {
      Due.is("half of them go", x.check(0, Edges.full(place + 1)), 8 - place);
      Due.is("none goes again", x.check(0, Edges.full(place + 1)), 8 - place);
    }
    Due.is("0 alone", x.check(0, 511), 0);
    Edges.code("0 alone", x, 0, 9, "-");
  }

  private static void shifts() {
    Edges.noCode(6, (x, code) -> x.shifts(code, 1, 1));
    Sentence.of(6, "Throws `IllegalArgumentException` if length is not 1 to 9, or polynomial is 0 or no WORD of that LENGTH");
    Edges.arguments(Edges.with(4, 5, 9), "LENGTH", (x, length) -> x.shifts(0, length, 1), NO_LENGTHS);
    for (int length = 1; length <= 9; length++) {
      int n = length;
      Syndromehouse x = Edges.with(4, 5, 9);
      Edges.arguments(x, "polynomial of " + n, (y, set) -> y.shifts(0, n, set), 0, 1 << n, -1, 1 << n | 1,
          Integer.MIN_VALUE, Integer.MAX_VALUE);
      Due.is("the last PLACE of " + n, x.shifts(0, n, 1 << n - 1), 1);
      Due.is("the first PLACE of " + n, x.shifts(0, n, 1), n);
    }
    Sentence.of(6, "and so on, as long as its greatest PLACE is below LENGTH.");
    for (int length = 1; length <= 9; length++) {
      for (int set = 1; set < 1 << length; set++) {
        int greatest = 31 - Integer.numberOfLeadingZeros(set);
        Due.is("polynomial " + set + " of " + length, new Syndromehouse().shifts(0, length, set), length - greatest);
      }
    }
    Syndromehouse x = new Syndromehouse();
    x.shifts(0, 5, 7);
    Due.is("none comes in at the front", x.text(0), "10010 01001 00111");
  }

  private static void evaluated() {
    Edges.noCode(7, (x, code) -> x.evaluated(code, 0, 0));
    Sentence.of(7, "Throws `IllegalArgumentException` if m is not 0 to 3, or r not 0 to m");
    Syndromehouse x = Edges.with(4, 5, 9);
    Edges.arguments(x, "m", (y, m) -> y.evaluated(0, m, 0), -1, 4, 32, Integer.MIN_VALUE, Integer.MAX_VALUE);
    for (int m = 0; m <= 3; m++) {
      int it = m;
      Edges.arguments(x, "r of " + m, (y, r) -> y.evaluated(0, it, r), -1, m + 1, 4, Integer.MIN_VALUE,
          Integer.MAX_VALUE);
    }
    Sentence.of(7, "A CODE by evaluation, of LENGTH 2^m: all SUMS of these WORDS, one for each set of at most r of the numbers 0 to m - 1:");
    for (int m = 0; m <= 3; m++) {
      int length = 1 << m;
      Due.is("the empty set alone of " + m, x.evaluated(0, m, 0), 1);
      Due.is("all PLACES of " + m, x.nth(0, 1), Edges.full(length));
      Due.is("LENGTH of " + m, x.ofCode(0, 0), length);
      Due.is("all sets of " + m, x.evaluated(0, m, m), length);
      Due.is("all but one of " + m, m == 0 ? 0 : x.evaluated(0, m, m - 1), length - 1);
    }
  }

  private static void longer() {
    Edges.noCode(8, (x, code) -> x.longer(code));
    Sentence.of(8, "Returns LENGTH then, or -8 (above 9).");
    Syndromehouse x = Edges.with(1, 1);
    for (int length = 2; length <= 9; length++) {
      Due.is("to LENGTH " + length, x.longer(0), length);
    }
    Edges.told(x, "LENGTH 10", -8, () -> x.longer(0));
    Edges.told(x, "LENGTH 10 again", -8, () -> x.longer(0));
    Sentence.of(8, "A CODE gets one PLACE more (the last one): each WORD has it, if its WEIGHT is odd.");
    Edges.code("no WEIGHT is odd but the first one", x, 0, 9, "110000000");
    Syndromehouse y = Edges.with(3);
    y.longer(0);
    Edges.code("0 alone", y, 0, 4, "-");
    y.all(0, 8);
    Due.is("full", y.longer(0), 9);
    Due.is("WORDS of even WEIGHT alone", y.ofCode(0, 2) + 10 * y.ofCode(0, 1), 82);
  }

  private static void noPlace(int promise, Edges.OfCode byCode, Edges.OfCode byPlace) {
    Sentence.of(promise, NO_PLACE);
    Edges.noCodeAsNamed(byCode);
    for (int length = 1; length <= 9; length++) {
      Syndromehouse x = Edges.with(length, Edges.full(length));
      Edges.indices(x, "PLACE of " + length, byPlace, -1, length, 32, Integer.MIN_VALUE, Integer.MAX_VALUE);
      for (int place = 0; place < length; place += Math.max(1, length - 1)) {
        Syndromehouse y = Edges.with(length, Edges.full(length));
        int it = place;
        Object answer = Due.outcome(() -> byPlace.answer(y, it));
        Due.is("PLACE " + place + " of " + length, answer instanceof Integer, true);
      }
    }
  }

  private static void shorter() {
    noPlace(9, (x, code) -> x.shorter(code, 0), (x, place) -> x.shorter(0, place));
    Sentence.of(9, "Returns DIMENSION then, or -8 (LENGTH is 1).");
    Syndromehouse x = new Syndromehouse();
    x.all(0, 9);
    for (int length = 8; length >= 1; length--) {
      Due.is("to LENGTH " + length, x.shorter(0, length % 2 == 0 ? length : 0), length);
    }
    Edges.told(x, "LENGTH 1", -8, () -> x.shorter(0, 0));
    x.zero(0, 1);
    Edges.told(x, "LENGTH 1, 0 alone", -8, () -> x.shorter(0, 0));
    x.zero(0, 2);
    Due.is("LENGTH 2, 0 alone", x.shorter(0, 1), 0);
    Sentence.of(9, "A CODE loses a PLACE and all WORDS that have it (PLACES behind it are 1 less).");
    for (int place = 0; place < 9; place++) {
      Syndromehouse y = Edges.with(9, 0b100000001, 0b000010000, 0b010001100);
      int due = (0b100010000 >> place & 1) == 1 ? 2 : place == 0 ? 2 : (0b010001100 >> place & 1) == 1 ? 2 : 3;
      Due.is("DIMENSION without " + place, y.shorter(0, place), due);
    }
    Syndromehouse z = Edges.with(4, 0b1010, 0b0101);
    z.shorter(0, 0);
    Edges.code("the first PLACE", z, 0, 3, "101");
    Edges.put(z, 0, 4, 0b1010, 0b0101);
    z.shorter(0, 3);
    Edges.code("the last PLACE", z, 0, 3, "101");
    Edges.put(z, 0, 4, 0b1001, 0b0110);
    z.shorter(0, 1);
    Edges.code("a PLACE within", z, 0, 3, "101");
    Edges.put(z, 0, 4, 15);
    z.shorter(0, 2);
    Edges.code("all WORDS but 0 have it", z, 0, 3, "-");
  }

  private static void pierce() {
    noPlace(10, (x, code) -> x.pierce(code, 0), (x, place) -> x.pierce(0, place));
    Sentence.of(10, "Returns DIMENSION then, or -8 (LENGTH is 1).");
    Syndromehouse x = Edges.with(9, 511);
    for (int length = 8; length >= 1; length--) {
      Due.is("to LENGTH " + length, x.pierce(0, length % 2 == 0 ? length : 0), 1);
      Due.is("all PLACES are left", x.nth(0, 1), Edges.full(length));
    }
    Edges.told(x, "LENGTH 1", -8, () -> x.pierce(0, 0));
    x.zero(0, 1);
    Edges.told(x, "LENGTH 1, 0 alone", -8, () -> x.pierce(0, 0));
    x.zero(0, 2);
    Due.is("LENGTH 2, 0 alone", x.pierce(0, 1), 0);
    Sentence.of(10, "All WORDS of a CODE lose a PLACE (PLACES behind it are 1 less).");
    Syndromehouse z = Edges.with(4, 0b1010, 0b0101);
    z.pierce(0, 0);
    Edges.code("the first PLACE", z, 0, 3, "101 010");
    Edges.put(z, 0, 4, 0b1010, 0b0101);
    z.pierce(0, 3);
    Edges.code("the last PLACE", z, 0, 3, "101 010");
    Edges.put(z, 0, 4, 0b1001, 0b0110);
    z.pierce(0, 1);
    Edges.code("a PLACE within", z, 0, 3, "101 010");
    Edges.put(z, 0, 4, 4, 3);
    z.pierce(0, 2);
    Edges.code("a WORD becomes 0", z, 0, 3, "110");
    x.all(0, 9);
    Due.is("two WORDS become one", x.pierce(0, 4), 8);
  }

  private static void join() {
    Edges.noCodeOfBoth(11, (x, code) -> x.join(code, 0), (x, code) -> x.join(0, code));
    Sentence.of(11, "Returns DIMENSION then, or -8 (LENGTH would be above 9).");
    for (int one = 1; one <= 9; one++) {
      for (int other = 1; other <= 9; other++) {
        Syndromehouse x = new Syndromehouse();
        x.all(0, one);
        x.all(1, other);
        if (one + other <= 9) {
          Due.is(one + " and " + other, x.join(0, 1), one + other);
          Due.is("LENGTH of " + one + " and " + other, x.ofCode(0, 0), one + other);
        } else {
          Edges.told(x, one + " and " + other, -8, () -> x.join(0, 1));
        }
      }
    }
    Sentence.of(11, "(its PLACES are more by LENGTH of the first one)");
    for (int length = 1; length <= 8; length++) {
      Syndromehouse x = Edges.with(length, 1);
      x.zero(1, 9 - length);
      x.row(1, 1 << 8 - length);
      x.join(0, 1);
      Due.is("the first PLACE, of " + length, x.line(0, 0, false), 1);
      Due.is("the last PLACE, of " + (9 - length), x.line(0, 1, false), 256);
      Edges.put(x, 0, length, 1);
      x.zero(1, 9 - length);
      x.join(1, 0);
      Due.is("behind 0 alone, of " + length, x.line(1, 0, false), 1 << 9 - length);
    }
    Sentence.of(11, "- `other`: the other one (or the same)");
    Syndromehouse y = Edges.with(4, 1, 14);
    Due.is("the same", y.join(0, 0), 4);
    Edges.code("the same", y, 0, 8, "10000000 01110000 00001000 00000111");
    y.undo();
    Edges.code("undone", y, 0, 4, "1000 0111");
    y.zero(1, 5);
    Edges.told(y, "the same of LENGTH 5", -8, () -> y.join(1, 1));
  }

  private static void multiply() {
    Edges.noCodeOfBoth(12, (x, code) -> x.multiply(code, 0), (x, code) -> x.multiply(0, code));
    Sentence.of(12, "Returns DIMENSION then, or -8 (LENGTH would be above 9).");
    for (int one = 1; one <= 9; one++) {
      for (int other = 1; other <= 9; other++) {
        Syndromehouse x = new Syndromehouse();
        x.all(0, one);
        x.all(1, other);
        if (one * other <= 9) {
          Due.is(one + " by " + other, x.multiply(0, 1), one * other);
          Due.is("LENGTH of " + one + " by " + other, x.ofCode(0, 0), one * other);
        } else {
          Edges.told(x, one + " by " + other, -8, () -> x.multiply(0, 1));
        }
      }
    }
    Sentence.of(12, "its PLACES are i + LENGTH * j then, with i of its own LENGTH, j of the other one's;");
    for (int length = 1; length <= 9; length++) {
      Syndromehouse x = Edges.with(length, 1);
      int other = 9 / length;
      Edges.put(x, 1, other, 1 << other - 1);
      x.multiply(0, 1);
      Due.is("the first PLACE by the last one, " + length, x.line(0, 0, false), 1 << length * (other - 1));
      Edges.put(x, 0, length, 1 << length - 1);
      Edges.put(x, 1, other, 1);
      x.multiply(0, 1);
      Due.is("the last PLACE by the first one, " + length, x.line(0, 0, false), 1 << length - 1);
    }
    Sentence.of(12, "- `other`: the other one (or the same)");
    Syndromehouse y = Edges.with(3, 7);
    Due.is("the same", y.multiply(0, 0), 1);
    Edges.code("the same", y, 0, 9, "111111111");
    y.undo();
    Edges.code("undone", y, 0, 3, "111");
    y.zero(1, 4);
    Edges.told(y, "the same of LENGTH 4", -8, () -> y.multiply(1, 1));
    y.all(1, 3);
    Due.is("0 alone by all", Edges.with(3).multiply(0, 1), 0);
    y.zero(2, 3);
    Due.is("all by 0 alone", y.multiply(1, 2), 0);
    Edges.code("all by 0 alone", y, 1, 9, "-");
  }

  private static void turn() {
    Edges.noCode(13, (x, code) -> x.turn(code));
    Sentence.of(13, "A CODE becomes its OTHER CODE.");
    for (int length = 1; length <= 9; length++) {
      Syndromehouse x = new Syndromehouse();
      x.zero(0, length);
      Due.is("0 alone becomes all of " + length, x.turn(0), length);
      Due.is("all become 0 alone of " + length, x.turn(0), 0);
      Edges.code("0 alone", x, 0, length, "-");
    }
    Syndromehouse y = Edges.with(2, 3);
    Due.is("the same one", y.turn(0), 1);
    Edges.code("the same one", y, 0, 2, "11");
  }

  private static void blend() {
    Edges.noCodeOfBoth(14, (x, code) -> x.blend(code, 0, true), (x, code) -> x.blend(0, code, true));
    Edges.noCodeAsNamed((x, code) -> x.blend(code, 0, false));
    Edges.noCodeAsNamed((x, code) -> x.blend(0, code, false));
    Sentence.of(14, "Returns DIMENSION then, or -8 (unlike LENGTHS).");
    for (int one = 1; one <= 9; one++) {
      for (int other = 1; other <= 9; other++) {
        Syndromehouse x = new Syndromehouse();
        x.zero(0, one);
        x.all(1, other);
        if (one == other) {
          Due.is("common of " + one, x.blend(0, 1, true), 0);
          Due.is("SUMS of " + one, x.blend(0, 1, false), one);
          Due.is("common with itself", x.blend(0, 1, true), one);
        } else {
          Edges.told(x, "common of " + one + " and " + other, -8, () -> x.blend(0, 1, true));
          Edges.told(x, "SUMS of " + one + " and " + other, -8, () -> x.blend(0, 1, false));
        }
      }
    }
    Sentence.of(14, "- `other`: the other one (or the same)");
    Syndromehouse y = Edges.with(4, 3, 6);
    Due.is("common with the same", y.blend(0, 0, true), 2);
    Edges.code("common with the same", y, 0, 4, "1010 0110");
    Due.is("SUMS with the same", y.blend(0, 0, false), 2);
    Edges.code("SUMS with the same", y, 0, 4, "1010 0110");
    Edges.put(y, 1, 4, 1, 8);
    Due.is("nothing but 0 is common", y.blend(1, 0, true), 0);
  }

  private static void move() {
    Sentence.of(15, "Throws `IndexOutOfBoundsException` if there is no such CODE, or PLACE of it, of both");
    Edges.noCodeAsNamed((x, code) -> x.move(code, 0, 0));
    for (int length = 1; length <= 9; length++) {
      Syndromehouse x = Edges.with(length, 1);
      Edges.indices(x, "one of " + length, (y, place) -> y.move(0, place, 0), -1, length, 32, Integer.MIN_VALUE,
          Integer.MAX_VALUE);
      Edges.indices(x, "the other one of " + length, (y, place) -> y.move(0, 0, place), -1, length, 32,
          Integer.MIN_VALUE, Integer.MAX_VALUE);
      Edges.indices(x, "both of " + length, (y, place) -> y.move(0, place, place), -1, length);
    }
    Sentence.of(15, "Returns 1 if the CODE is another one by that, otherwise 0.");
    for (int length = 1; length <= 9; length++) {
      Syndromehouse x = Edges.with(length, 1);
      int last = length - 1;
      Due.is("the last PLACE of " + length, x.move(0, 0, last), last == 0 ? 0 : 1);
      Due.is("the ROW of " + length, x.line(0, 0, false), 1 << last);
      Due.is("and back", x.move(0, last, 0), last == 0 ? 0 : 1);
      x.all(0, length);
      Due.is("all WORDS stay all", x.move(0, 0, last), 0);
      x.zero(0, length);
      Due.is("0 alone stays", x.move(0, 0, last), 0);
    }
    Sentence.of(15, "- `other`: a PLACE (or the same)");
    for (int place = 0; place < 9; place++) {
      Syndromehouse x = Edges.with(9, 1, 14, 496);
      String before = x.text(0);
      Due.is("the same PLACE " + place, x.move(0, place, place), 0);
      Due.is("as before", x.text(0), before);
      Due.is("it is a step all the same", x.house(0), 5);
    }
  }

  private static void copy() {
    Edges.noCodeOfBoth(16, (x, code) -> x.copy(code, 0), (x, code) -> x.copy(0, code));
    Sentence.of(16, "- `from`: the other one (or the same)");
    Syndromehouse x = Edges.with(9, 511, 1, 2);
    Due.is("the same", x.copy(0, 0), 3);
    Edges.code("the same", x, 0, 9, "100000000 010000000 001111111");
    Due.is("a long one over a short one", x.copy(1, 0), 3);
    Due.is("a short one over a long one", x.copy(0, 2), 0);
    Edges.code("a short one", x, 0, 1, "-");
    x.undo();
    Edges.code("undone", x, 0, 9, "100000000 010000000 001111111");
    x.all(2, 9);
    Due.is("a full one", x.copy(0, 2), 9);
    x.zero(2, 9);
    Due.is("it does not go with the other one", x.ofCode(0, 1), 9);
  }
}
