import java.math.BigInteger;

/** The boundary sentences of promises 32 to 50: what is asked. */
final class EdgesOfAnswers {
  private static final int[] FARTHEST = {-1, Integer.MIN_VALUE, Integer.MAX_VALUE};

  private EdgesOfAnswers() {
  }

  static void run() {
    ofCode();
    ofCodeAtEdges();
    placesThatMakeNone();
    line();
    nth();
    syndrome();
    leader();
    weights();
    chanceOfWrongArguments();
    chance();
    like();
    ways();
    text();
    letter();
    within();
    nearest();
    walk();
    cost();
    stream();
    house();
    isSound();
    digest();
  }

  private static void ofCode() {
    Edges.noCode(32, (x, code) -> x.ofCode(code, 0));
    Edges.noCodeAsNamed((x, code) -> x.ofCode(code, 11));
    Sentence.of(32, "Throws `IllegalArgumentException` if what is not 0 to 11");
    Syndromehouse x = Edges.with(4, 5, 9);
    Edges.arguments(x, "what", (y, what) -> y.ofCode(0, what), 12, -1, Integer.MIN_VALUE, Integer.MAX_VALUE);
    for (int what = 0; what <= 11; what++) {
      Due.is("what " + what, x.ofCode(0, what) >= 0, true);
    }
    Sentence.of(32, "3 the smallest WORD of it with that WEIGHT (NONE without)");
    x.zero(1, 9);
    Due.is("without", x.ofCode(1, 3), -1);
    x.row(1, 256);
    Due.is("the greatest one of one PLACE", x.ofCode(1, 3), 256);
    x.row(1, 128);
    Due.is("the smallest of two", x.ofCode(1, 3), 128);
    x.row(1, 511);
    Due.is("the lighter ones", x.ofCode(1, 3), 128);
    Edges.put(x, 1, 9, 0b000000111, 0b110000000);
    Due.is("a greater one, but lighter", x.ofCode(1, 3), 384);
    x.shifts(1, 9, 511);
    Due.is("of all PLACES", x.ofCode(1, 3), 511);
    for (int set = 1; set < 256; set += 6) {
      Syndromehouse y = Edges.with(8, set, 255 - set, set * 37 & 255, set * 59 & 255);
      Due.is("of the CODE of " + set, y.ofCode(0, 3), smallestOfLeastWeight(y));
    }
    Sentence.of(32, "4 the set of LEADS");
    Due.is("one", x.ofCode(1, 4), 1);
    x.zero(1, 9);
    Due.is("none", x.ofCode(1, 4), 0);
    x.all(1, 9);
    Due.is("all", x.ofCode(1, 4), 511);
    Edges.put(x, 1, 9, 256);
    Due.is("the last PLACE", x.ofCode(1, 4), 256);
  }

  private static int smallestOfLeastWeight(Syndromehouse y) {
    int best = -1;
    for (int i = 1; i < 1 << y.ofCode(0, 1); i++) {
      int word = y.nth(0, i);
      best = best < 0 || Integer.bitCount(word) < Integer.bitCount(best) ? word : best;
    }
    return best;
  }

  private static void ofCodeAtEdges() {
    Sentence.of(32, "5 T (NONE without DISTANCE)");
    Syndromehouse x = new Syndromehouse();
    for (int length = 1; length <= 9; length++) {
      x.zero(0, length);
      Due.is("NONE of " + length, x.ofCode(0, 5), -1);
      x.all(0, length);
      Due.is("0 of " + length, x.ofCode(0, 5), 0);
    }
    Sentence.of(32, "6 1 if it REACHES the bound of BALLS, otherwise 0, 7 that of SINGLES, 8 that of SUMS");
    reaches("Hamming's, 7 PLACES", 1, 0, 1, 7, 11, 22, 44, 88);
    reaches("all of 1", 1, 1, 1, 1, 1);
    reaches("even ones of 3", 0, 1, 1, 3, 3, 6);
    reaches("the same five times", 1, 1, 1, 5, 31);
    reaches("the same six times", 0, 1, 1, 6, 63);
    reaches("a PLACE without use", 0, 0, 0, 4, 7);
    reaches("one PLACE of two", 0, 0, 0, 2, 1);
    Sentence.of(32, "9 the greatest WEIGHT of a LEADER");
    for (int length = 1; length <= 9; length++) {
      Syndromehouse y = Edges.with(length);
      Due.is("of 0 alone, " + length, y.ofCode(0, 9), length);
      y.row(0, Edges.full(length));
      Due.is("of the same, " + length, y.ofCode(0, 9), length / 2);
      y.all(0, length);
      Due.is("of all, " + length, y.ofCode(0, 9), 0);
    }
    Sentence.of(32, "10 1 if it is its OTHER CODE, otherwise 0");
    Edges.put(x, 1, 2, 3);
    Due.is("the shortest", x.ofCode(1, 10), 1);
    Edges.put(x, 1, 2, 1);
    Due.is("as many ROWS, but another one", x.ofCode(1, 10), 0);
    Edges.put(x, 1, 4, 3);
    Due.is("within its OTHER CODE", x.ofCode(1, 10), 0);
    x.turn(1);
    Due.is("its OTHER CODE within it", x.ofCode(1, 10), 0);
    x.zero(1, 1);
    Due.is("0 alone", x.ofCode(1, 10), 0);
  }

  private static void reaches(String what, int balls, int singles, int sums, int length, int... rows) {
    Syndromehouse x = Edges.with(length, rows);
    Due.is(what + ": BALLS", x.ofCode(0, 6), balls);
    Due.is(what + ": SINGLES", x.ofCode(0, 7), singles);
    Due.is(what + ": SUMS", x.ofCode(0, 8), sums);
  }

  private static void placesThatMakeNone() {
    Sentence.of(32, "11 the greatest number m up to LENGTH for which no 1 to m PLACES make a WORD of the CODE (0, if one PLACE does)");
    for (int length = 1; length <= 9; length++) {
      Syndromehouse x = Edges.with(length);
      Due.is("up to LENGTH " + length, x.ofCode(0, 11), length);
      x.row(0, Edges.full(length));
      Due.is("all but one of " + length, x.ofCode(0, 11), length - 1);
      x.row(0, 1 << length - 1);
      Due.is("one PLACE does, of " + length, x.ofCode(0, 11), 0);
      x.all(0, length);
      Due.is("each PLACE does, of " + length, x.ofCode(0, 11), 0);
    }
  }

  private static void line() {
    Sentence.of(33, "Throws `IndexOutOfBoundsException` if there is no such CODE, or ROW or CHECK of it");
    // A new CODE has a CHECK, but no ROW.
    Edges.noCodeAsNamed((x, code) -> x.line(code, 0, true));
    Edges.indices(new Syndromehouse(), "CODE", (x, code) -> x.line(code, 0, false), -1, 0, 1, 2, 3);
    for (int k = 0; k <= 9; k++) {
      Syndromehouse x = Edges.with(9);
      for (int place = 0; place < k; place++) {
        x.row(0, 1 << place);
      }
      Edges.indices(x, "ROW of " + k, (y, nth) -> y.line(0, nth, false), k, 9, -1, Integer.MIN_VALUE,
          Integer.MAX_VALUE);
      Edges.indices(x, "CHECK of " + k, (y, nth) -> y.line(0, nth, true), 9 - k, 9, -1, Integer.MIN_VALUE,
          Integer.MAX_VALUE);
      if (k > 0) {
        Due.is("the first ROW of " + k, x.line(0, 0, false), 1);
        Due.is("the last ROW of " + k, x.line(0, k - 1, false), 1 << k - 1);
      }
      if (k < 9) {
        Due.is("the first CHECK of " + k, x.line(0, 0, true), 1 << k);
        Due.is("the last CHECK of " + k, x.line(0, 8 - k, true), 256);
      }
    }
  }

  private static void nth() {
    Sentence.of(34, "Throws `IndexOutOfBoundsException` if there is no such CODE, or no such WORD of it");
    Edges.noCodeAsNamed((x, code) -> x.nth(code, 0));
    for (int length = 1; length <= 9; length++) {
      int many = 1 << length;
      Syndromehouse x = new Syndromehouse();
      x.all(0, length);
      Edges.indices(x, "of all of " + length, (y, nth) -> y.nth(0, nth), many, -1, Integer.MIN_VALUE,
          Integer.MAX_VALUE);
      Due.is("the last one of " + length, x.nth(0, many - 1), many - 1);
      x.zero(0, length);
      Edges.indices(x, "of 0 alone", (y, nth) -> y.nth(0, nth), 1, -1, many);
      Due.is("of 0 alone", x.nth(0, 0), 0);
    }
    Sentence.of(34, "Returns the nth WORD of it, from 0 on, by rising numbers.");
    Syndromehouse x = Edges.with(9, 256, 128, 3);
    int[] due = {0, 3, 128, 131, 256, 259, 384, 387};
    for (int i = 0; i < due.length; i++) {
      Due.is("nth " + i, x.nth(0, i), due[i]);
    }
  }

  private static void syndrome() {
    Edges.noCode(35, (x, code) -> x.syndrome(code, 0));
    Sentence.of(35, "Throws `IllegalArgumentException` if word is no WORD of its LENGTH");
    for (int length = 1; length <= 9; length++) {
      Syndromehouse x = Edges.with(length);
      Edges.arguments(x, "LENGTH " + length, (y, word) -> y.syndrome(0, word), 1 << length, 1 << length | 1, -1,
          Integer.MIN_VALUE, Integer.MAX_VALUE);
      Due.is("all CHECKS of " + length, x.syndrome(0, Edges.full(length)), Edges.full(length));
      Due.is("no CHECK of " + length, x.syndrome(0, 0), 0);
      x.all(0, length);
      Due.is("without CHECKS of " + length, x.syndrome(0, Edges.full(length)), 0);
    }
  }

  private static void leader() {
    Edges.noCode(36, (x, code) -> x.leader(code, 0));
    Sentence.of(36, "Throws `IllegalArgumentException` if syndrome is no set of numbers of CHECKS");
    for (int checks = 0; checks <= 9; checks++) {
      Syndromehouse x = Edges.with(9);
      for (int place = checks; place < 9; place++) {
        x.row(0, 1 << place);
      }
      int many = 1 << checks;
      Edges.arguments(x, "CHECKS " + checks, (y, set) -> y.leader(0, set), many, many | 1 << 9, -1, 1 << 30,
          Integer.MIN_VALUE, Integer.MAX_VALUE);
      Due.is("all of them, " + checks, x.leader(0, many - 1), many - 1);
      Due.is("none of them, " + checks, x.leader(0, 0), 0);
    }
  }

  private static void weights() {
    Edges.noCode(37, (x, code) -> x.weights(code, 0, false));
    Edges.noCodeAsNamed((x, code) -> x.weights(code, 1, true));
    Sentence.of(37, "Throws `IllegalArgumentException` if weight is not 0 to LENGTH");
    for (int length = 1; length <= 9; length++) {
      Syndromehouse x = Edges.with(length, Edges.full(length));
      Edges.arguments(x, "of it, " + length, (y, w) -> y.weights(0, w, false), length + 1, -1, 10,
          Integer.MIN_VALUE, Integer.MAX_VALUE);
      Edges.arguments(x, "of the other one, " + length, (y, w) -> y.weights(0, w, true), length + 1, -1, 10,
          Integer.MIN_VALUE, Integer.MAX_VALUE);
      Due.is("0 of " + length, x.weights(0, 0, false), 1);
      Due.is("LENGTH of " + length, x.weights(0, length, false), 1);
      Due.is("0 of the other one of " + length, x.weights(0, 0, true), 1);
      Due.is("LENGTH of the other one of " + length, x.weights(0, length, true), 1 - length % 2);
    }
    Sentence.of(37, "Returns how many WORDS have it.");
    Syndromehouse x = new Syndromehouse();
    x.all(0, 9);
    x.zero(1, 9);
    Due.is("the most of all", x.weights(0, 4, false) + x.weights(0, 5, false), 252);
    Due.is("the most of the other one", x.weights(1, 4, true) + x.weights(1, 5, true), 252);
    Due.is("none of 0 alone", x.weights(1, 9, false), 0);
    Due.is("none of the other one", x.weights(0, 9, true), 0);
  }

  private static void chanceOfWrongArguments() {
    Edges.noCode(38, (x, code) -> x.chance(code, 1, 2));
    Sentence.of(38, "Throws `IllegalArgumentException` if bottom is not 2 to 20, or top not 1 to bottom - 1");
    Syndromehouse x = Edges.with(3, 7);
    Edges.arguments(x, "bottom", (y, bottom) -> y.chance(0, 1, bottom), 1, 0, -1, 21, Integer.MIN_VALUE,
        Integer.MAX_VALUE);
    for (int bottom = 2; bottom <= 20; bottom++) {
      int b = bottom;
      Edges.arguments(x, "top of " + b, (y, top) -> y.chance(0, top, b), 0, b);
      Due.is("the least top of " + b, x.chance(0, 1, b).isEmpty(), false);
      Due.is("the greatest top of " + b, x.chance(0, b - 1, b).isEmpty(), false);
    }
    Edges.arguments(x, "top", (y, top) -> y.chance(0, top, 20), FARTHEST);
    Edges.arguments(x, "both", (y, both) -> y.chance(0, both, both), 0, 1, 2, 20, 21);
  }

  private static void chance() {
    Sentence.of(38, "as a fraction in lowest terms: two decimal numbers with \"/\" between; the first one alone, if the second one is 1.");
    Syndromehouse x = new Syndromehouse();
    for (int length = 1; length <= 9; length++) {
      x.zero(0, length);
      Due.is("0 alone is never another one, " + length, x.chance(0, 19, 20), "0");
      x.all(0, length);
      BigInteger all = BigInteger.valueOf(20).pow(length);
      BigInteger right = BigInteger.valueOf(19).pow(length);
      Due.is("nothing is mended, " + length, x.chance(0, 1, 20), all.subtract(right) + "/" + all);
      Due.is("all is as good, " + length, x.chance(0, 1, 2), Edges.full(length) + "/" + (1 << length));
      Due.is("in lowest terms, " + length, x.chance(0, 10, 20), Edges.full(length) + "/" + (1 << length));
    }
    x.all(1, 1);
    Due.is("the least one", x.chance(1, 1, 20), "1/20");
    Due.is("the greatest one", x.chance(1, 19, 20), "19/20");
    Due.is("lower terms", x.chance(1, 4, 20), "1/5");
    x.shifts(1, 9, 511);
    BigInteger wrong = BigInteger.ZERO;
    int[] choices = {126, 84, 36, 9, 1};
    for (int i = 0; i < 5; i++) {
      wrong = wrong.add(BigInteger.valueOf(choices[i]).multiply(BigInteger.valueOf(19).pow(5 + i)));
    }
    BigInteger whole = BigInteger.valueOf(20).pow(9);
    BigInteger common = whole.gcd(wrong);
    Due.is("five and more are false", x.chance(1, 19, 20), wrong.divide(common) + "/" + whole.divide(common));
  }

  private static void like() {
    Edges.noCodeOfBoth(39, (x, code) -> x.like(code, 0), (x, code) -> x.like(0, code));
    Sentence.of(39, "Returns 1 if they are LIKE, otherwise 0; -8, if LENGTH of one of both is above 6 (unlike LENGTHS up to 6: 0).");
    for (int one = 1; one <= 9; one++) {
      for (int other = 1; other <= 9; other++) {
        Syndromehouse x = Edges.with(one, 1);
        Edges.put(x, 1, other, 1 << other - 1);
        if (one > 6 || other > 6) {
          Edges.toldUncounted(x, one + " and " + other, () -> x.like(0, 1));
        } else {
          Due.is(one + " and " + other, x.like(0, 1), one == other ? 1 : 0);
        }
      }
    }
    Syndromehouse x = new Syndromehouse();
    x.zero(0, 6);
    x.all(1, 6);
    Due.is("0 alone and all", x.like(0, 1), 0);
    Due.is("all and 0 alone", x.like(1, 0), 0);
    Edges.put(x, 0, 6, 3);
    Edges.put(x, 1, 6, 7);
    Due.is("as many ROWS, of unlike WEIGHT", x.like(0, 1), 0);
    x.zero(2, 6);
    Due.is("one within the other one", x.like(2, 1), 0);
    x.zero(0, 5);
    Due.is("0 alone of 5 and of 6", x.like(0, 2), 0);
    Due.is("0 alone of 6 and of 5", x.like(2, 0), 0);
    Edges.put(x, 0, 5, 3);
    Edges.put(x, 2, 6, 3);
    Due.is("the same WORDS of 5 and of 6", x.like(0, 2), 0);
    Due.is("the same WORDS of 6 and of 5", x.like(2, 0), 0);
    Edges.put(x, 0, 6, 48);
    Due.is("the first PLACES and the last ones", x.like(0, 2), 1);
  }

  private static void ways() {
    Edges.noCode(40, (x, code) -> x.ways(code));
    Sentence.of(40, "Returns WAYS, or -8 (LENGTH is above 6).");
    int factorial = 1;
    for (int length = 1; length <= 9; length++) {
      factorial *= length;
      Syndromehouse x = Edges.with(length);
      x.all(1, length);
      for (int code = 0; code <= 1; code++) {
        int it = code;
        if (length > 6) {
          Edges.toldUncounted(x, "LENGTH " + length, () -> x.ways(it));
        } else {
          Due.is("all ways of " + length, x.ways(it), factorial);
        }
      }
    }
    // Groups of one, two and three PLACES: each by itself.
    Due.is("some of the ways of 6", Edges.with(6, 1, 6, 56).ways(0), 2 * 6);
  }

  private static void text() {
    Edges.noCode(41, (x, code) -> x.text(code));
    Sentence.of(41, "\"1\" where it has the PLACE, otherwise \"0\"; with \" \" between; \"-\" without any.");
    for (int length = 1; length <= 9; length++) {
      Syndromehouse x = Edges.with(length);
      Due.is("without any of " + length, x.text(0), "-");
      x.row(0, 1 << length - 1);
      Due.is("the last PLACE of " + length, x.text(0), "0".repeat(length - 1) + "1");
      x.row(0, 1);
      Due.is("two ROWS of " + length, x.text(0),
          length == 1 ? "1" : "1" + "0".repeat(length - 1) + " " + "0".repeat(length - 1) + "1");
      x.all(0, length);
      Due.is("all of " + length, x.text(0).length(), length * length + length - 1);
    }
  }

  private static void letter() {
    Sentence.of(42, "Throws `IllegalArgumentException` if what is not 0 to 3");
    Edges.arguments(new Syndromehouse(), "what", (x, what) -> x.letter(what), 4, -1, Integer.MIN_VALUE,
        Integer.MAX_VALUE);
    Sentence.of(42, "3 the sum of all DOUBTS (of LOST PLACES, too, as told)");
    Syndromehouse x = new Syndromehouse();
    x.hear(9, 0);
    for (int place = 0; place < 9; place++) {
      x.lose(place, true);
      x.doubt(place, 9);
      Due.is("LOST and doubted up to " + place, x.letter(3), 9 * (place + 1) + 8 - place);
    }
    for (int place = 0; place < 9; place++) {
      x.doubt(place, 0);
    }
    Due.is("none", x.letter(3), 0);
    Due.is("all are LOST", x.letter(2), 511);
  }

  private static void within() {
    Edges.noCode(43, (x, code) -> x.within(code, 0));
    Sentence.of(43, "Throws `IllegalArgumentException` if radius is not 0 to 9");
    Syndromehouse x = Edges.with(9, 511);
    Edges.arguments(x, "radius", (y, radius) -> y.within(1, radius), 10, -1, Integer.MIN_VALUE, Integer.MAX_VALUE);
    Sentence.of(43, "Returns how many WORDS of it are no more than that APART from the LETTER (LOST PLACES count as they are), or -8.");
    Edges.toldUncounted(x, "another LENGTH", () -> x.within(0, 0));
    x.hear(9, 511);
    Edges.toldUncounted(x, "another LENGTH, the other way", () -> x.within(1, 9));
    x.zero(0, 9);
    x.lose(4, true);
    for (int radius = 0; radius <= 9; radius++) {
      Due.is("0 is 9 APART, " + radius, x.within(0, radius), radius < 9 ? 0 : 1);
    }
    x.all(0, 9);
    int[] due = {1, 10, 46, 130, 256, 382, 466, 502, 511, 512};
    for (int radius = 0; radius <= 9; radius++) {
      Due.is("of all, " + radius, x.within(0, radius), due[radius]);
    }
  }

  private static void nearest() {
    Sentence.of(44, "Throws `IndexOutOfBoundsException` if there is no such CODE, or no such WORD of it");
    Edges.noCodeAsNamed((x, code) -> x.nearest(code, 0));
    for (int length = 1; length <= 9; length++) {
      int many = 1 << length;
      Syndromehouse x = new Syndromehouse();
      x.hear(length, 0);
      x.all(0, length);
      Edges.indices(x, "of all of " + length, (y, nth) -> y.nearest(0, nth), many, -1, Integer.MIN_VALUE,
          Integer.MAX_VALUE);
      Due.is("the first one of " + length, x.nearest(0, 0), 0);
      Due.is("the last one of " + length, x.nearest(0, many - 1), many - 1);
      x.zero(0, length);
      Edges.indices(x, "of 0 alone", (y, nth) -> y.nearest(0, nth), 1, -1, many);
      Due.is("of 0 alone", x.nearest(0, 0), 0);
    }
    Sentence.of(44, "those less far APART from the LETTER first (LOST PLACES count as they are), of these the smaller ones first; or -8.");
    Syndromehouse x = Edges.with(3, 3, 4);
    x.hear(3, 5);
    x.lose(2, true);
    int[] due = {4, 7, 0, 3};
    for (int i = 0; i < due.length; i++) {
      Due.is("nearest " + i, x.nearest(0, i), due[i]);
    }
    Edges.toldUncounted(x, "another LENGTH", () -> x.nearest(1, 0));
    x.hear(1, 0);
    Edges.toldUncounted(x, "another LENGTH, the last WORD", () -> x.nearest(0, 3));
    Edges.index(x, "another LENGTH, too few WORDS", () -> x.nearest(0, 4));
  }

  private static void walk() {
    Sentence.of(45, "Returns that of the walk of least COST; NONE, if the STREAM is empty.");
    Syndromehouse x = new Syndromehouse();
    Due.is("COST at first", x.walk(true), -1);
    Due.is("message at first", x.walk(false), -1);
    for (int many = 1; many <= 8; many++) {
      int greatest = Edges.full(many);
      x.send(greatest, many);
      Due.is("COST as sent, " + many, x.walk(true), 0);
      Due.is("the greatest message, " + many, x.walk(false), greatest);
      x.send(0, many);
      Due.is("the least message, " + many, x.walk(false), 0);
      Due.is("its COST, " + many, x.walk(true), 0);
      x.undo();
      x.undo();
      Due.is("empty again", x.walk(false), -1);
    }
    x.taps(7, 7);
    Due.is("TAPS make no STREAM", x.walk(true), -1);
  }

  private static void cost() {
    Sentence.of(46, "Returns its COST, as a message of as many signs as the STREAM was sent for; NONE, if the STREAM is empty, or message is no such.");
    Syndromehouse x = new Syndromehouse();
    for (int message : new int[] {0, 1, -1, Integer.MIN_VALUE, Integer.MAX_VALUE}) {
      Due.is("empty, " + message, x.cost(message), -1);
    }
    for (int many = 1; many <= 8; many++) {
      int greatest = Edges.full(many);
      x.send(greatest, many);
      Due.is("the greatest message of " + many, x.cost(greatest), 0);
      Due.is("the least message of " + many, x.cost(0), Integer.bitCount(signs(x)));
      for (int message : new int[] {greatest + 1, greatest + 2, -1, Integer.MIN_VALUE, Integer.MAX_VALUE}) {
        Due.is("no message of " + many + ", " + message, x.cost(message), -1);
      }
    }
    Due.is("the greatest message of all", x.cost(255), 0);
    x.send(0, 1);
    Due.is("it is none of one sign", x.cost(255), -1);
  }

  private static int signs(Syndromehouse x) {
    return Integer.parseInt(x.stream(), 2);
  }

  private static void stream() {
    Sentence.of(47, "Returns the STREAM, \"0\" and \"1\"; \"-\" without any.");
    Syndromehouse x = new Syndromehouse();
    Due.is("without any", x.stream(), "-");
    for (int many = 1; many <= 8; many++) {
      x.send(0, many);
      Due.is("noughts of " + many, x.stream(), "0".repeat(2 * many + 4));
      for (int i = 0; i < 2 * many + 4; i++) {
        x.spoil(i);
      }
      Due.is("ones of " + many, x.stream(), "1".repeat(2 * many + 4));
    }
  }

  private static void house() {
    Sentence.of(48, "Throws `IllegalArgumentException` if what is not 0 to 6");
    Syndromehouse x = new Syndromehouse();
    Edges.arguments(x, "what", (y, what) -> y.house(what), 7, -1, Integer.MIN_VALUE, Integer.MAX_VALUE);
    Sentence.of(48, "0 how many can be undone,");
    for (int i = 1; i <= 12; i++) {
      x.flip(0);
      Due.is("step " + i, x.house(0), Math.min(i, 10));
    }
    Sentence.of(48, "4 how often -8 was told ever by calls of «codes», «the letter» and «the stream», 5 how often -7, 6 how many were REFUSED");
    Syndromehouse y = Edges.with(9);
    int told = 0;
    for (Due.Call call : new Due.Call[] {() -> y.longer(0), () -> y.shorter(1, 0), () -> y.pierce(1, 0),
        () -> y.join(0, 0), () -> y.multiply(0, 0), () -> y.blend(0, 1, true), () -> y.blend(0, 1, false),
        () -> y.mend(0), () -> y.byPlace(0), () -> y.byDoubt(0), () -> y.byRounds(0, 0), () -> y.byVotes()}) {
      Due.is("-8", call.answer(), -8);
      Due.is("counted", y.house(4), ++told);
    }
    for (Due.Call call : new Due.Call[] {() -> y.like(0, 1), () -> y.ways(0), () -> y.within(0, 9),
        () -> y.nearest(0, 0)}) {
      Edges.toldUncounted(y, "of what is asked", call);
    }
    y.hear(9, 3);
    told = 0;
    for (Due.Call call : new Due.Call[] {() -> y.byPlace(0), () -> y.byRounds(0, 1)}) {
      Due.is("-7", call.answer(), -7);
      Due.is("counted", y.house(5), ++told);
    }
    y.undo();
    y.undo();
    Due.is("undo counts nothing back", y.house(4) * 100 + y.house(5) * 10 + y.house(6), 1220);
    Due.is("nor is NONE counted", y.walk(true) + y.cost(0) + y.ofCode(1, 2), -3);
    Due.is("counts", y.house(4) * 100 + y.house(5) * 10 + y.house(6), 1220);
  }

  private static void isSound() {
    Sentence.of(49, "DISTANCE less 1 is what ofCode() of 11 tells (if there is a DISTANCE); if the LETTER is of its LENGTH, the SUM of the LETTER's WORD and the LEADER of its SYNDROME is in the CODE; and the walk of least COST costs no more than the messages 0 and 1 of as many signs.");
    Syndromehouse x = new Syndromehouse();
    Due.is("no DISTANCE, no STREAM", x.isSound(), true);
    for (int length = 1; length <= 9; length++) {
      x.zero(0, length);
      x.all(1, length);
      Edges.put(x, 2, length, Edges.full(length));
      Due.is("another LENGTH than the LETTER's", x.isSound(), true);
      for (int word : new int[] {0, Edges.full(length), 1 << length - 1}) {
        x.hear(length, word);
        Due.is("the LETTER " + word + " of " + length, x.isSound(), true);
      }
      x.lose(0, true);
      Due.is("LOST", x.isSound(), true);
    }
    for (int length = 1; length <= 8; length++) {
      // The LETTER of all nine PLACES is no WORD of these, nor has it a SYNDROME there.
      Syndromehouse y = Edges.with(length);
      Edges.put(y, 1, length, Edges.full(length));
      y.hear(9, 511);
      Due.is("a LETTER longer than " + length, y.isSound(), true);
    }
    for (int many = 1; many <= 8; many++) {
      x.send(Edges.full(many), many);
      Due.is("STREAM of " + many, x.isSound(), true);
      x.spoil(0);
      x.spoil(2 * many + 3);
      x.taps(many % 7 + 1, 1);
      Due.is("spoiled STREAM of " + many, x.isSound(), true);
    }
  }

  private static void digest() {
    Sentence.of(50, "A number d starts with 6101; then d becomes d * 31 + v, which wraps around as a 64-bit integer,");
    Syndromehouse x = new Syndromehouse();
    Due.is("new", x.digest(), wrapped(x));
    Due.is("asked again", x.digest(), wrapped(x));
    x.all(0, 9);
    x.zero(1, 9);
    x.shifts(2, 9, 273);
    x.hear(9, 511);
    x.lose(8, true);
    x.doubt(8, 9);
    x.send(255, 8);
    Due.is("full", x.digest(), wrapped(x));
    x.longer(0);
    x.byRounds(1, 0);
    x.knock();
    Due.is("counted", x.digest(), wrapped(x));
    Sentence.of(50, "and behind all these how many signs text() has (\" \" and \"-\" count, too);");
    for (int length = 1; length <= 9; length++) {
      Syndromehouse y = Edges.with(length);
      Due.is("\"-\" of " + length, y.digest(), wrapped(y));
      y.row(0, 1);
      Due.is("one ROW of " + length, y.digest(), wrapped(y));
      y.all(0, length);
      Due.is("all ROWS of " + length, y.digest(), wrapped(y));
    }
    Sentence.of(50, "how many signs stream() has (\"-\" counts, too);");
    for (int many = 1; many <= 8; many++) {
      Syndromehouse y = new Syndromehouse();
      y.send(1, many);
      Due.is("signs of " + many, y.digest(), wrapped(y));
    }
  }

  /** The checksum in numbers without a bound, cut to 64 bits at the end alone. */
  private static long wrapped(Syndromehouse x) {
    BigInteger d = BigInteger.valueOf(6101);
    for (int what = 0; what <= 6; what++) {
      d = next(d, x.house(what));
    }
    for (int code = 0; code < 3; code++) {
      for (int what = 0; what <= 11; what++) {
        d = next(d, x.ofCode(code, what));
      }
      int length = x.ofCode(code, 0);
      int rows = x.ofCode(code, 1);
      for (int i = 0; i < length; i++) {
        d = next(d, i < rows ? x.line(code, i, false) : x.line(code, i - rows, true));
      }
      for (int weight = 0; weight <= length; weight++) {
        d = next(next(d, x.weights(code, weight, false)), x.weights(code, weight, true));
      }
      d = next(d, x.text(code).length());
    }
    for (int what = 0; what <= 3; what++) {
      d = next(d, x.letter(what));
    }
    d = next(next(next(d, x.walk(true)), x.walk(false)), x.stream().length());
    return next(d, x.isSound() ? 1 : 0).longValue();
  }

  private static BigInteger next(BigInteger d, int v) {
    return d.multiply(BigInteger.valueOf(31)).add(BigInteger.valueOf(v));
  }
}
