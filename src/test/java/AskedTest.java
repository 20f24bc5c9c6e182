/** Promises 32 to 44, 49 and 50: what is asked of codes and of the letter, soundness, and the checksum. */
public final class AskedTest {
  private AskedTest() {
  }

  public static void main(String[] args) {
    ofCode();
    line();
    nth();
    syndromeAndLeader();
    weights();
    chance();
    like();
    ways();
    text();
    letter();
    within();
    nearest();
    isSound();
    digest();
    wrongCodes();
    Due.end("AskedTest");
  }

  private static Syndromehouse with(int length, int... words) {
    Syndromehouse x = new Syndromehouse();
    put(x, 0, length, words);
    return x;
  }

  private static void put(Syndromehouse x, int code, int length, int... words) {
    x.zero(code, length);
    for (int word : words) {
      x.row(code, word);
    }
  }

  private static void told(String what, Syndromehouse x, int... due) {
    for (int i = 0; i <= 11; i++) {
      Due.is("ofCode " + i + " of " + what, x.ofCode(0, i), due[i]);
    }
  }

  private static void ofCode() {
    Syndromehouse x = new Syndromehouse();
    told("a new one", x, 1, 0, -1, -1, 0, -1, 0, 0, 0, 1, 0, 1);
    x.zero(0, 9);
    told("0 alone", x, 9, 0, -1, -1, 0, -1, 0, 0, 0, 9, 0, 9);
    x.all(0, 9);
    told("all WORDS", x, 9, 9, 1, 1, 511, 0, 1, 1, 1, 0, 0, 0);
    x.all(0, 1);
    told("all WORDS of LENGTH 1", x, 1, 1, 1, 1, 1, 0, 1, 1, 1, 0, 0, 0);
    x.shifts(0, 7, 11);
    told("Hamming's", x, 7, 4, 3, 11, 15, 1, 1, 0, 1, 1, 0, 2);
    x.turn(0);
    told("Hamming's OTHER CODE", x, 7, 3, 4, 29, 7, 1, 0, 0, 1, 3, 0, 3);
    x.evaluated(0, 3, 1);
    told("that by evaluation", x, 8, 4, 4, 15, 0b10111, 1, 0, 0, 1, 2, 1, 3);
    x.shifts(0, 5, 31);
    told("five times the same", x, 5, 1, 5, 31, 1, 2, 1, 1, 1, 2, 0, 4);
    x.shifts(0, 9, 511);
    told("nine times the same", x, 9, 1, 9, 511, 1, 4, 1, 1, 1, 4, 0, 8);
    x.shifts(0, 4, 15);
    told("four times the same", x, 4, 1, 4, 15, 1, 1, 0, 1, 1, 2, 0, 3);
    x.shifts(0, 4, 3);
    told("even ones", x, 4, 3, 2, 3, 7, 0, 0, 1, 1, 1, 0, 1);
    put(x, 0, 4, 3, 12);
    told("two pairs", x, 4, 2, 2, 3, 5, 0, 0, 0, 0, 2, 1, 1);
    put(x, 0, 6, 0b100100, 0b011000);
    told("two pairs far apart", x, 6, 2, 2, 24, 0b1100, 0, 0, 0, 0, 4, 0, 1);
    Due.argument("ofCode 12", () -> x.ofCode(0, 12));
    Due.argument("ofCode -1", () -> x.ofCode(0, -1));
    Due.index("no CODE goes ahead", () -> x.ofCode(3, 12));
  }

  private static void line() {
    Syndromehouse x = with(4, 6, 3);
    Due.is("ROW 0", x.line(0, 0, false), 5);
    Due.is("ROW 1", x.line(0, 1, false), 6);
    Due.is("CHECK 0", x.line(0, 0, true), 7);
    Due.is("CHECK 1", x.line(0, 1, true), 8);
    Due.index("ROW 2", () -> x.line(0, 2, false));
    Due.index("ROW -1", () -> x.line(0, -1, false));
    Due.index("CHECK 2", () -> x.line(0, 2, true));
    Due.index("CHECK -1", () -> x.line(0, -1, true));
    x.all(0, 9);
    Due.is("ROW 8", x.line(0, 8, false), 256);
    Due.index("ROW 9", () -> x.line(0, 9, false));
    Due.index("no CHECK", () -> x.line(0, 0, true));
    x.zero(0, 9);
    Due.is("CHECK 8", x.line(0, 8, true), 256);
    Due.index("no ROW", () -> x.line(0, 0, false));
  }

  private static void nth() {
    Syndromehouse x = with(4, 6, 9);
    int[] due = {0, 6, 9, 15};
    for (int i = 0; i < due.length; i++) {
      Due.is("nth " + i, x.nth(0, i), due[i]);
    }
    Due.index("nth 4", () -> x.nth(0, 4));
    Due.index("nth -1", () -> x.nth(0, -1));
    Due.is("of 0 alone", x.nth(1, 0), 0);
    Due.index("of 0 alone, 1", () -> x.nth(1, 1));
    x.all(0, 9);
    Due.is("the last one", x.nth(0, 511), 511);
    Due.index("nth 512", () -> x.nth(0, 512));
  }

  private static void syndromeAndLeader() {
    Syndromehouse x = with(4, 6, 3);
    // CHECKS are 1110 and 0001.
    int[] syndromes = {0, 1, 1, 0, 1, 0, 0, 1, 2, 3, 3, 2, 3, 2, 2, 3};
    for (int word = 0; word < 16; word++) {
      Due.is("syndrome of " + word, x.syndrome(0, word), syndromes[word]);
    }
    int[] leaders = {0, 1, 8, 9};
    for (int s = 0; s < 4; s++) {
      Due.is("leader of " + s, x.leader(0, s), leaders[s]);
    }
    Due.argument("syndrome of 16", () -> x.syndrome(0, 16));
    Due.argument("syndrome of -1", () -> x.syndrome(0, -1));
    Due.argument("leader of 4", () -> x.leader(0, 4));
    Due.argument("leader of -1", () -> x.leader(0, -1));
    Due.index("no CODE goes ahead of a SYNDROME", () -> x.leader(3, -1));
    Due.index("no CODE goes ahead of a WORD", () -> x.syndrome(-1, -1));
    // 3 is smaller, but 4 is lighter.
    put(x, 0, 3, 7);
    Due.is("the lightest", x.leader(0, x.syndrome(0, 3)), 4);
    Due.is("of several the smallest", leaderOfPairs(), 1);
    x.all(0, 9);
    Due.is("without CHECKS", x.leader(0, 0), 0);
    Due.argument("without CHECKS, 1", () -> x.leader(0, 1));
    x.zero(0, 9);
    Due.is("of 0 alone", x.leader(0, 511), 511);
    Due.is("of 0 alone: syndrome", x.syndrome(0, 300), 300);
  }

  private static int leaderOfPairs() {
    Syndromehouse x = with(2, 3);
    return x.leader(0, x.syndrome(0, 2));
  }

  private static void weights() {
    Syndromehouse x = new Syndromehouse();
    x.shifts(0, 7, 11);
    int[] hamming = {1, 0, 0, 7, 7, 0, 0, 1};
    int[] simplex = {1, 0, 0, 0, 7, 0, 0, 0};
    for (int w = 0; w <= 7; w++) {
      Due.is("A " + w, x.weights(0, w, false), hamming[w]);
      Due.is("B " + w, x.weights(0, w, true), simplex[w]);
    }
    Due.argument("WEIGHT 8", () -> x.weights(0, 8, false));
    Due.argument("WEIGHT -1", () -> x.weights(0, -1, true));
    Due.argument("WEIGHT 2 of LENGTH 1", () -> x.weights(1, 2, false));
    x.all(1, 9);
    x.zero(2, 9);
    int[] choices = {1, 9, 36, 84, 126, 126, 84, 36, 9, 1};
    for (int w = 0; w <= 9; w++) {
      Due.is("A of all " + w, x.weights(1, w, false), choices[w]);
      Due.is("B of all " + w, x.weights(1, w, true), w == 0 ? 1 : 0);
      Due.is("A of 0 alone " + w, x.weights(2, w, false), w == 0 ? 1 : 0);
      Due.is("B of 0 alone " + w, x.weights(2, w, true), choices[w]);
    }
    Due.argument("WEIGHT 10", () -> x.weights(1, 10, false));
  }

  private static void chance() {
    Syndromehouse x = new Syndromehouse();
    Due.is("0 alone", x.chance(0, 1, 2), "0");
    x.shifts(0, 3, 7);
    Due.is("three times the same", x.chance(0, 1, 10), "7/250");
    Due.is("1 / 2", x.chance(0, 1, 2), "1/2");
    Due.is("2 / 20 is 1 / 10", x.chance(0, 2, 20), "7/250");
    Due.is("above 1 / 2", x.chance(0, 9, 10), "243/250");
    x.all(0, 1);
    Due.is("one PLACE", x.chance(0, 3, 7), "3/7");
    x.all(0, 9);
    Due.is("numbers beyond an int", x.chance(0, 19, 20), "511999999999/512000000000");
    Due.is("a nought within", x.chance(0, 1, 20), "189312302221/512000000000");
    x.shifts(0, 2, 3);
    Due.is("the LEADER of 01 is 10", x.chance(0, 1, 3), "1/3");
    Due.argument("bottom 1", () -> x.chance(0, 1, 1));
    Due.argument("bottom 21", () -> x.chance(0, 1, 21));
    Due.argument("bottom 0", () -> x.chance(0, 0, 0));
    Due.argument("top 0", () -> x.chance(0, 0, 2));
    Due.argument("top is bottom", () -> x.chance(0, 2, 2));
    Due.argument("top -1", () -> x.chance(0, -1, 2));
    Due.index("no CODE goes ahead", () -> x.chance(3, 0, 0));
  }

  private static void like() {
    Syndromehouse x = with(6, 0b000111, 0b111000);
    put(x, 1, 6, 0b010101, 0b101010);
    put(x, 2, 6, 0b000011, 0b111100);
    Due.is("LIKE", x.like(0, 1), 1);
    Due.is("LIKE, the other way", x.like(1, 0), 1);
    Due.is("unlike WEIGHTS", x.like(0, 2), 0);
    Due.is("itself", x.like(2, 2), 1);
    put(x, 2, 6, 0b000111);
    Due.is("unlike DIMENSIONS", x.like(0, 2), 0);
    Due.is("unlike DIMENSIONS, the other way", x.like(2, 0), 0);
    x.zero(2, 5);
    Due.is("unlike LENGTHS", x.like(0, 2), 0);
    // The same WEIGHTS 2, 4, 4, but the pair of one is in the four of the other one.
    put(x, 0, 6, 0b000011, 0b111100);
    put(x, 1, 6, 0b000011, 0b001111);
    Due.is("pairs and fours", x.like(0, 1), 0);
    x.zero(2, 7);
    Due.is("LENGTH 7", x.like(0, 2), -8);
    Due.is("LENGTH 7 first", x.like(2, 0), -8);
    Due.is("this -8 is not counted", x.house(4), 0);
    Due.is("no step but of what made them", x.house(0), 10);
  }

  private static void ways() {
    Syndromehouse x = new Syndromehouse();
    int factorial = 1;
    for (int length = 1; length <= 6; length++) {
      factorial *= length;
      x.zero(0, length);
      Due.is("ways of 0 alone, " + length, x.ways(0), factorial);
      x.shifts(0, length, (1 << length) - 1);
      Due.is("ways of the same, " + length, x.ways(0), factorial);
    }
    put(x, 0, 6, 1);
    Due.is("one PLACE stays", x.ways(0), 120);
    put(x, 0, 6, 0b000111, 0b111000);
    Due.is("two threes", x.ways(0), 72);
    put(x, 0, 6, 3, 12, 48);
    Due.is("three pairs", x.ways(0), 48);
    put(x, 0, 6, 0b111001, 0b110010, 0b101100);
    Due.is("a short Hamming's", x.ways(0), 24);
    x.zero(0, 7);
    Due.is("LENGTH 7", x.ways(0), -8);
    Due.is("this -8 is not counted", x.house(4), 0);
  }

  private static void text() {
    Syndromehouse x = with(3);
    Due.is("without ROWS", x.text(0), "-");
    x.row(0, 4);
    Due.is("PLACE 0 is first", x.text(0), "001");
    x.row(0, 1);
    Due.is("by rising LEADS", x.text(0), "100 001");
    x.all(0, 9);
    Due.is("how many signs", x.text(0).length(), 89);
  }

  private static void letter() {
    Syndromehouse x = new Syndromehouse();
    x.hear(9, 300);
    x.lose(8, true);
    x.doubt(8, 9);
    x.doubt(0, 0);
    int[] due = {9, 300, 256, 16};
    for (int what = 0; what <= 3; what++) {
      Due.is("letter(" + what + ")", x.letter(what), due[what]);
    }
    Due.argument("letter(4)", () -> x.letter(4));
    Due.argument("letter(-1)", () -> x.letter(-1));
  }

  private static void within() {
    Syndromehouse x = with(4, 3, 12);
    x.hear(4, 1);
    x.lose(0, true);
    int[] due = {0, 2, 2, 4, 4, 4, 4, 4, 4, 4};
    for (int radius = 0; radius <= 9; radius++) {
      Due.is("within " + radius, x.within(0, radius), due[radius]);
    }
    x.hear(4, 12);
    Due.is("in the CODE", x.within(0, 0), 1);
    Due.argument("radius 10", () -> x.within(0, 10));
    Due.argument("radius -1", () -> x.within(0, -1));
    Due.is("unlike LENGTHS", x.within(1, 9), -8);
    Due.argument("exceptions go ahead of -8", () -> x.within(1, 10));
    Due.is("this -8 is not counted", x.house(4), 0);
    Due.index("no CODE goes ahead", () -> x.within(3, 10));
  }

  private static void nearest() {
    Syndromehouse x = with(4, 3, 12);
    x.hear(4, 13);
    x.lose(0, true);
    int[] due = {12, 15, 0, 3};
    for (int i = 0; i < due.length; i++) {
      Due.is("nearest " + i, x.nearest(0, i), due[i]);
    }
    Due.index("nearest 4", () -> x.nearest(0, 4));
    Due.index("nearest -1", () -> x.nearest(0, -1));
    Due.is("unlike LENGTHS", x.nearest(1, 0), -8);
    Due.index("too few WORDS go ahead of -8", () -> x.nearest(1, 1));
    Due.is("this -8 is not counted", x.house(4), 0);
  }

  private static void isSound() {
    Syndromehouse x = new Syndromehouse();
    Due.is("new", x.isSound(), true);
    for (int length = 1; length <= 9; length++) {
      x.all(0, length);
      x.zero(1, length);
      x.shifts(2, length, (1 << length) - 1);
      x.hear(length, 1);
      x.send(length % 2, Math.min(length, 8));
      x.spoil(length);
      Due.is("LENGTH " + length, x.isSound(), true);
    }
    Due.is("asking is no step", x.house(0), 10);
  }

  private static void digest() {
    Syndromehouse x = new Syndromehouse();
    x.shifts(0, 7, 11);
    x.all(1, 9);
    x.zero(2, 4);
    x.hear(7, 77);
    x.lose(5, true);
    x.doubt(5, 8);
    x.mend(2);
    Due.is("the sum told", x.digest(), summed(x));
    x.send(200, 8);
    x.spoil(3);
    x.knock();
    x.taps(5, 6);
    Due.is("the sum with a STREAM", x.digest(), summed(x));
  }

  private static long summed(Syndromehouse x) {
    long d = 6101;
    for (int what = 0; what <= 6; what++) {
      d = d * 31 + x.house(what);
    }
    for (int code = 0; code < 3; code++) {
      for (int what = 0; what <= 11; what++) {
        d = d * 31 + x.ofCode(code, what);
      }
      for (int i = 0; i < x.ofCode(code, 1); i++) {
        d = d * 31 + x.line(code, i, false);
      }
      for (int i = 0; i < x.ofCode(code, 0) - x.ofCode(code, 1); i++) {
        d = d * 31 + x.line(code, i, true);
      }
      for (int weight = 0; weight <= x.ofCode(code, 0); weight++) {
        d = d * 31 + x.weights(code, weight, false);
        d = d * 31 + x.weights(code, weight, true);
      }
      d = d * 31 + x.text(code).length();
    }
    for (int what = 0; what <= 3; what++) {
      d = d * 31 + x.letter(what);
    }
    d = d * 31 + x.walk(true);
    d = d * 31 + x.walk(false);
    d = d * 31 + x.stream().length();
    return d * 31 + (x.isSound() ? 1 : 0);
  }

  private static void wrongCodes() {
    Syndromehouse x = new Syndromehouse();
    for (int code : new int[] {-1, 3, Integer.MIN_VALUE, Integer.MAX_VALUE}) {
      Due.index("ofCode", () -> x.ofCode(code, 0));
      Due.index("line", () -> x.line(code, 0, true));
      Due.index("nth", () -> x.nth(code, 0));
      Due.index("syndrome", () -> x.syndrome(code, 0));
      Due.index("leader", () -> x.leader(code, 0));
      Due.index("weights", () -> x.weights(code, 0, false));
      Due.index("chance", () -> x.chance(code, 1, 2));
      Due.index("like", () -> x.like(code, 0));
      Due.index("like the other", () -> x.like(0, code));
      Due.index("ways", () -> x.ways(code));
      Due.index("text", () -> x.text(code));
      Due.index("within", () -> x.within(code, 0));
      Due.index("nearest", () -> x.nearest(code, 0));
    }
  }
}
