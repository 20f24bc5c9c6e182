import java.util.ArrayList;
import java.util.List;

/** The boundary sentences of the document's description: sections 1 to 5 and what stands ahead of them. */
final class EdgesOfDescription {
  private EdgesOfDescription() {
  }

  static void run() {
    manyCalls();
    none();
    exceptionsChangeNothing();
    firstExceptionIsThrown();
    refusalsChangeNothing();
    exceptionsGoAhead();
    lengthsGoAhead();
    words();
    codes();
    rowsAndChecks();
    leaders();
    distances();
    bounds();
    likeness();
    letterAtFirst();
    doubtsOfPlaces();
    writing();
    nearness();
    place();
    doubts();
    rounds();
    votes();
    stream();
    cost();
    steps();
    lastTen();
    keeper();
  }

  private static void says(String words) {
    Sentence.of(Sentence.DESCRIPTION, words);
  }

  private static void manyCalls() {
    says("An object is used for at most 512 calls after it has been made");
    Syndromehouse x = new Syndromehouse();
    for (int i = 1; i <= 509; i++) {
      Due.is("call " + i, i % 2 == 1 ? x.all(2, 9) : x.undo(), 0);
    }
    Due.is("call 510", x.undo(), 0);
    Due.is("call 511", x.isSound(), true);
    Due.is("call 512", x.digest(), new Syndromehouse().digest());
  }

  private static void none() {
    says("NONE is -1.");
    Syndromehouse x = new Syndromehouse();
    Due.is("no DISTANCE", x.ofCode(0, 2), -1);
    Due.is("no PLACE was changed", x.byPlace(0), -1);
    Due.is("no walk", x.walk(false), -1);
    Due.is("no COST", x.cost(0), -1);
  }

  /** A house with a code of nine places, one of one, a doubted letter with a lost place, a stream, and ten steps. */
  private static Syndromehouse busy() {
    Syndromehouse x = new Syndromehouse();
    x.send(77, 7);
    x.taps(6, 3);
    x.hear(4, 9);
    x.doubt(1, 8);
    x.lose(3, true);
    x.shifts(0, 8, 23);
    x.longer(0);
    x.all(2, 4);
    x.check(2, 15);
    x.check(2, 3);
    x.spoil(17);
    return x;
  }

  private static List<Due.Call> wrongIndices(Syndromehouse x) {
    List<Due.Call> calls = new ArrayList<>();
    for (int code : new int[] {-1, 3}) {
      calls.addAll(List.of(() -> x.zero(code, 1), () -> x.all(code, 1), () -> x.row(code, 0), () -> x.check(code, 0),
          () -> x.shifts(code, 1, 1), () -> x.evaluated(code, 0, 0), () -> x.longer(code), () -> x.shorter(code, 0),
          () -> x.pierce(code, 0), () -> x.join(code, 1), () -> x.join(1, code),
          () -> x.multiply(code, 1), () -> x.multiply(1, code), () -> x.turn(code), () -> x.blend(code, 1, true),
          () -> x.blend(1, code, false), () -> x.move(code, 0, 0), () -> x.copy(code, 1),
          () -> x.copy(1, code), () -> x.say(code, 0), () -> x.mend(code), () -> x.byPlace(code),
          () -> x.byDoubt(code), () -> x.byRounds(code, 0), () -> x.ofCode(code, 0), () -> x.line(code, 0, true),
          () -> x.nth(code, 0), () -> x.syndrome(code, 0),
          () -> x.leader(code, 0), () -> x.weights(code, 0, true), () -> x.chance(code, 1, 2),
          () -> x.like(code, 1), () -> x.like(1, code), () -> x.ways(code), () -> x.text(code),
          () -> x.within(code, 0), () -> x.nearest(code, 0)));
    }
    calls.addAll(List.of(() -> x.shorter(0, 9), () -> x.pierce(0, 9), () -> x.move(0, 9, 0), () -> x.move(0, 0, 9),
        () -> x.flip(4), () -> x.lose(4, true), () -> x.doubt(4, 0), () -> x.spoil(18), () -> x.line(0, 4, false),
        () -> x.line(0, 5, true), () -> x.nth(0, 16), () -> x.nearest(0, 16), () -> x.nearest(1, 1)));
    return calls;
  }

  private static List<Due.Call> wrongArguments(Syndromehouse x) {
    List<Due.Call> calls = new ArrayList<>(List.of(() -> x.zero(0, 0), () -> x.all(0, 10), () -> x.row(0, 512),
        () -> x.check(0, 512), () -> x.shifts(0, 10, 1), () -> x.shifts(0, 9, 0), () -> x.evaluated(0, 4, 0),
        () -> x.evaluated(0, 2, 3),
        () -> x.hear(10, 0), () -> x.hear(4, 16), () -> x.say(1, 1), () -> x.doubt(0, 10),
        () -> x.byRounds(2, 21), () -> x.taps(0, 1), () -> x.taps(1, 8), () -> x.send(0, 9), () -> x.send(2, 1),
        () -> x.ofCode(0, 12), () -> x.syndrome(0, 512), () -> x.leader(2, 4),
        () -> x.weights(0, 10, true), () -> x.chance(0, 1, 21), () -> x.letter(4), () -> x.within(2, 10),
        () -> x.house(7)));
    return calls;
  }

  private static void exceptionsChangeNothing() {
    says("A method that throws an exception changes nothing.");
    Syndromehouse x = busy();
    int i = 0;
    for (Due.Call call : wrongIndices(x)) {
      Edges.index(x, "wrong index " + i++, call);
    }
    undoBoth(x, busy());
    Syndromehouse y = busy();
    i = 0;
    for (Due.Call call : wrongArguments(y)) {
      Edges.argument(y, "wrong argument " + i++, call);
    }
    undoBoth(y, busy());
    Edges.state(y, "undo()", () -> y.undo());
  }

  /** What is kept to be undone must be as in the twin, too. */
  private static void undoBoth(Syndromehouse x, Syndromehouse twin) {
    for (int still = 9; still >= 0; still--) {
      Due.is("undo", x.undo(), still);
      twin.undo();
      Due.is("undone to " + still, Edges.seen(x), Edges.seen(twin));
    }
  }

  private static void firstExceptionIsThrown() {
    says("If several exceptions apply, the one that is named first is thrown.");
    Syndromehouse x = busy();
    List<Due.Call> calls = new ArrayList<>(List.of(() -> x.zero(3, 0), () -> x.all(-1, 10), () -> x.row(3, -1),
        () -> x.check(-1, -1), () -> x.shifts(3, 10, 0), () -> x.shifts(3, 3, 8), () -> x.evaluated(3, 4, 5),
        () -> x.evaluated(-1, 2, 3), () -> x.say(3, -1), () -> x.doubt(4, 10), () -> x.doubt(-1, -1),
        () -> x.byRounds(3, 21), () -> x.byRounds(-1, -1), () -> x.ofCode(3, 12), () -> x.syndrome(3, -1),
        () -> x.leader(3, -1), () -> x.weights(3, -1, false), () -> x.weights(-1, 10, true),
        () -> x.chance(3, 0, 0), () -> x.chance(-1, 1, 21), () -> x.within(3, 10), () -> x.within(-1, -1)));
    int i = 0;
    for (Due.Call call : calls) {
      Edges.index(x, "two exceptions " + i++, call);
    }
  }

  private static List<Due.Call> unlikeLengths(Syndromehouse x) {
    return List.of(() -> x.longer(0), () -> x.shorter(1, 0), () -> x.pierce(1, 0), () -> x.join(0, 1),
        () -> x.multiply(0, 2), () -> x.blend(0, 2, true), () -> x.mend(0), () -> x.byPlace(1), () -> x.byDoubt(0),
        () -> x.byRounds(1, 20), () -> x.byVotes());
  }

  /** The busy house's CODE 2 has the WORDS 0, 3, 12, 15; its LETTER is 1001, the last PLACE LOST. */
  private static List<Due.Call> beyondMending(Syndromehouse x) {
    return List.of(() -> x.mend(2), () -> x.byRounds(2, 0));
  }

  private static void refusalsChangeNothing() {
    says("Some calls are LET, but can not be done: they tell a number and change nothing (but counts;");
    Syndromehouse x = busy();
    int i = 0;
    for (Due.Call call : unlikeLengths(x)) {
      Edges.told(x, "-8 number " + i++, -8, call);
    }
    for (Due.Call call : beyondMending(x)) {
      Edges.told(x, "-7 number " + i++, -7, call);
    }
    Syndromehouse y = busy();
    unlikeLengths(y).forEach(call -> call.answer());
    beyondMending(y).forEach(call -> call.answer());
    undoBoth(y, busy());
    Due.is("counts stay", y.house(4) + 100 * y.house(5), 211);
    Syndromehouse z = new Syndromehouse();
    z.zero(0, 8);
    z.hear(8, 129);
    Edges.told(z, "byPlace()", -7, () -> z.byPlace(0));
    Edges.told(z, "byVotes()", -7, () -> z.byVotes());
    Due.is("still two steps", z.house(0), 2);
  }

  private static void exceptionsGoAhead() {
    says("exceptions go ahead of these numbers, also where WORDS of a CODE are too few)");
    Syndromehouse x = busy();
    Edges.index(x, "too few WORDS, and unlike LENGTHS", () -> x.nearest(1, 1));
    Edges.index(x, "too few WORDS of 16", () -> x.nearest(0, 16));
    Edges.toldUncounted(x, "enough WORDS of 16", () -> x.nearest(0, 15));
    Edges.index(x, "below 0", () -> x.nearest(0, -1));
    Edges.argument(x, "radius, and unlike LENGTHS", () -> x.within(0, 10));
    Edges.argument(x, "ROUNDS, and unlike LENGTHS", () -> x.byRounds(0, 21));
    Edges.index(x, "shorter() of LENGTH 1", () -> x.shorter(1, 1));
    Edges.index(x, "pierce() of LENGTH 1", () -> x.pierce(1, -1));
    Edges.index(x, "join() above 9", () -> x.join(0, 3));
    Edges.index(x, "multiply() above 9", () -> x.multiply(3, 0));
    Edges.index(x, "like() above 6", () -> x.like(0, 3));
    Edges.index(x, "like() above 6, the other way", () -> x.like(3, 0));
  }

  private static void lengthsGoAhead() {
    says("-8, if LENGTHS do not fit; otherwise -7, if it is BEYOND MENDING.");
    Syndromehouse x = Edges.with(5);
    x.hear(4, 6);
    Edges.told(x, "byRounds() of both", -8, () -> x.byRounds(0, 0));
    Edges.told(x, "byPlace() of both", -8, () -> x.byPlace(0));
    x.hear(4, 3);
    x.zero(0, 4);
    Edges.told(x, "byRounds() that fits", -7, () -> x.byRounds(0, 0));
    Edges.told(x, "byPlace() that fits", -7, () -> x.byPlace(0));
    x.hear(4, 1);
    Due.is("neither of both", x.byPlace(0), 0);
  }

  private static void words() {
    says("A WORD of a LENGTH n (1 to 9) is a set of PLACES (0 to n - 1): those where it has a 1.");
    for (int length = 1; length <= 9; length++) {
      Syndromehouse x = new Syndromehouse();
      int n = length;
      Due.is("no PLACE of " + n, x.hear(n, 0), 0);
      Due.is("all PLACES of " + n, x.hear(n, Edges.full(n)), n);
      Due.is("the last PLACE of " + n, x.flip(n - 1), Edges.full(n - 1));
      Due.is("the first PLACE of " + n, x.flip(0), n == 1 ? 1 : Edges.full(n - 1) - 1);
      Edges.index(x, "PLACE " + n, () -> x.flip(n));
      Edges.argument(x, "a WORD with PLACE " + n, () -> x.hear(n, 1 << n));
    }
    says("They are SQUARE TO each other, if the number of PLACES that both have is even.");
    Syndromehouse x = Edges.with(6, 1, 30);
    Due.is("they have none in common", x.check(0, 32), 2);
    Due.is("they have four in common", x.check(0, 30), 2);
    Due.is("they have one in common", x.check(0, 2), 1);
    Edges.code("the other one is left", x, 0, 6, "100000");
  }

  private static void codes() {
    says("A CODE of a LENGTH is a set of WORDS of that LENGTH, with 0 in it, and with the SUM of each two that are in it.");
    Syndromehouse x = new Syndromehouse();
    x.all(0, 9);
    for (int place = 0; place < 9; place++) {
      x.check(0, 1 << place);
    }
    Due.is("0 stays when all others go", x.nth(0, 0), 0);
    Edges.index(x, "and it alone", () -> x.nth(0, 1));
    says("It has 2^k WORDS; k is its DIMENSION.");
    for (int k = 0; k <= 9; k++) {
      x.zero(1, 9);
      for (int place = 0; place < k; place++) {
        x.row(1, 1 << place);
      }
      int many = 1 << k;
      Due.is("DIMENSION " + k, x.ofCode(1, 1), k);
      Due.is("the last WORD of " + k, x.nth(1, many - 1), many - 1);
      Edges.index(x, "no WORD more of " + k, () -> x.nth(1, many));
    }
    says("There are three CODES, 0 to 2 (of LENGTH 1, with the WORD 0 alone, at first).");
    Syndromehouse y = new Syndromehouse();
    for (int code = 0; code < 3; code++) {
      Edges.code("CODE " + code, y, code, 1, "-");
      Due.is("its WORD", y.nth(code, 0), 0);
    }
    Edges.indices(y, "text", (z, code) -> z.text(code), -1, 3);
  }

  private static void rowsAndChecks() {
    says("the LEAD of a ROW, its smallest PLACE, is in no other ROW; they are numbered from 0 by rising LEADS.");
    Syndromehouse x = Edges.with(5, 24, 20, 31);
    Edges.code("the last word came to be the first ROW", x, 0, 5, "11001 00101 00011");
    x.row(0, 1);
    Edges.code("a LEAD between", x, 0, 5, "10000 01001 00101 00011");
    x.row(0, 16);
    Edges.code("all", x, 0, 5, "10000 01000 00100 00010 00001");
    says("CHECKS: the ROWS of the OTHER CODE (LENGTH less DIMENSION of them).");
    for (int length = 1; length <= 9; length++) {
      int n = length;
      x.all(1, n);
      Edges.index(x, "none", () -> x.line(1, 0, true));
      x.zero(1, n);
      Due.is("as many as PLACES", x.line(1, n - 1, true), 1 << n - 1);
      Edges.index(x, "no more", () -> x.line(1, n, true));
    }
    says("(It is 0 just for WORDS of the CODE.)");
    int[][] codes = {{}, {511}, {7, 56, 448}, {1, 2, 4, 8, 16, 32, 64, 128, 256}, {257, 130, 68, 40, 16}};
    for (int[] rows : codes) {
      boolean[] isIn = sums(rows);
      for (int half = 0; half < 512; half += 256) {
        Syndromehouse y = Edges.with(9, rows);
        for (int word = half; word < half + 256; word++) {
          Due.is("SYNDROME 0 of " + word, y.syndrome(0, word) == 0, isIn[word]);
        }
      }
    }
  }

  private static boolean[] sums(int... rows) {
    boolean[] isIn = new boolean[512];
    isIn[0] = true;
    for (int row : rows) {
      boolean[] before = isIn.clone();
      for (int word = 0; word < 512; word++) {
        isIn[word] |= before[word ^ row];
      }
    }
    return isIn;
  }

  private static void leaders() {
    says("LEADER of a SYNDROME: of all WORDS that have it that with the least WEIGHT, of several the smallest.");
    Syndromehouse x = Edges.with(5, 31);
    for (int word = 0; word < 32; word++) {
      int due = Integer.bitCount(word) < 3 ? word : 31 - word;
      Due.is("the lighter of " + word, x.leader(0, x.syndrome(0, word)), due);
    }
    Edges.put(x, 1, 4, 15);
    for (int word : new int[] {3, 5, 6, 9, 10, 12}) {
      Due.is("the smaller of " + word, x.leader(1, x.syndrome(1, word)), Math.min(word, 15 - word));
    }
    Due.is("0 of SYNDROME 0", x.leader(1, 0), 0);
  }

  private static void distances() {
    says("DISTANCE: the least WEIGHT of a WORD of the CODE that is not 0 (NONE, if there is none).");
    for (int length = 1; length <= 9; length++) {
      Syndromehouse x = new Syndromehouse();
      x.zero(0, length);
      Due.is("NONE of " + length, x.ofCode(0, 2), -1);
      x.row(0, Edges.full(length));
      Due.is("the greatest of " + length, x.ofCode(0, 2), length);
      x.row(0, 1 << length - 1);
      Due.is("the least of " + length, x.ofCode(0, 2), 1);
    }
    says("(x over y) is how many choices of y of x things there are (0, if y is above x).");
    int[] choices = {1, 9, 36, 84, 126, 126, 84, 36, 9, 1};
    Syndromehouse x = new Syndromehouse();
    x.zero(0, 9);
    x.all(1, 9);
    Edges.put(x, 2, 9, 511);
    for (int w = 0; w <= 9; w++) {
      Due.is("B of 0 alone", x.weights(0, w, true), choices[w]);
      Due.is("B of all", x.weights(1, w, true), w == 0 ? 1 : 0);
      Due.is("B of the same nine times", x.weights(2, w, true), w % 2 == 0 ? choices[w] : 0);
    }
    // A code of 0 and one WORD asks for each v, and so for (v over j) and (n - v over w - j) where these are 0.
    for (int length = 1; length <= 9; length++) {
      for (int v = 1; v <= length; v++) {
        Syndromehouse y = Edges.with(length, Edges.full(v));
        y.copy(1, 0);
        y.turn(1);
        for (int w = 0; w <= length; w++) {
          Due.is("B of " + w + ", LENGTH " + length + ", WEIGHT " + v, y.weights(0, w, true), y.weights(1, w, false));
          Due.is("B of the other one", y.weights(1, w, true), y.weights(0, w, false));
        }
      }
    }
  }

  private static void bounds() {
    says("With DISTANCE d: T is d - 1, divided by 2 and rounded down.");
    Syndromehouse x = new Syndromehouse();
    for (int d = 1; d <= 9; d++) {
      x.shifts(0, d, Edges.full(d));
      Due.is("T of DISTANCE " + d, x.ofCode(0, 5), new int[] {0, 0, 1, 1, 2, 2, 3, 3, 4}[d - 1]);
      Due.is("BALLS of odd DISTANCES alone, " + d, x.ofCode(0, 6), d % 2);
      Due.is("SINGLES of " + d, x.ofCode(0, 7), 1);
      Due.is("SUMS of " + d, x.ofCode(0, 8), 1);
      x.longer(0);
    }
    says("It REACHES the bound of BALLS, if 2^k times the sum of (n over j) for j from 0 to T is 2^n; that of SINGLES, if k is n - d + 1;");
    // Balls of half the DISTANCE would be full for DISTANCE 2 of LENGTH 3 and 7, but T is less than half of it.
    Edges.put(x, 0, 3, 3);
    Due.is("DISTANCE 2 of LENGTH 3", x.ofCode(0, 6), 0);
    Edges.put(x, 0, 7, 3, 5, 9, 17);
    Due.is("DISTANCE 2 of LENGTH 7", x.ofCode(0, 6), 0);
    Due.is("four ROWS of 7, DISTANCE 2", x.ofCode(0, 7), 0);
    x.row(0, 33);
    Due.is("five ROWS of 7, DISTANCE 2", x.ofCode(0, 7), 0);
    x.row(0, 65);
    Due.is("six ROWS of 7, DISTANCE 2", x.ofCode(0, 7), 1);
    says("that of SUMS, if n is the sum, over all i from 0 to k - 1, of d divided by 2^i, each of these rounded up.");
    // 3 + 2 + 1 are 6; each of them rounded down, they would be 4.
    Edges.put(x, 1, 6, 0b100011, 0b010101, 0b001110);
    Due.is("DISTANCE", x.ofCode(1, 2), 3);
    Due.is("6 of DISTANCE 3, three ROWS", x.ofCode(1, 8), 1);
    Edges.put(x, 1, 7, 0b100011, 0b010101, 0b001110);
    Due.is("a PLACE too many", x.ofCode(1, 8), 0);
    Edges.put(x, 1, 5, 0b00111, 0b11001);
    Due.is("3 + 2", x.ofCode(1, 8), 1);
    x.all(1, 9);
    Due.is("nine times 1", x.ofCode(1, 8), 1);
    says("(With the WORD 0 alone it REACHES none.)");
    for (int length = 1; length <= 9; length++) {
      x.zero(2, length);
      for (int what = 6; what <= 8; what++) {
        Due.is("bound " + what + " of " + length, x.ofCode(2, what), 0);
      }
    }
  }

  private static void likeness() {
    says("(Both are told for a LENGTH up to 6.)");
    Syndromehouse x = new Syndromehouse();
    for (int length = 1; length <= 9; length++) {
      x.zero(0, length);
      Due.is("like() of " + length, x.like(0, 0), length <= 6 ? 1 : -8);
      Due.is("ways() of " + length, x.ways(0) > 0, length <= 6);
    }
    Due.is("ways() above", x.ways(0), -8);
  }

  private static void letterAtFirst() {
    says("At first it is of LENGTH 1, 0, none LOST, DOUBT 1.");
    Syndromehouse x = new Syndromehouse();
    Edges.letter("at first", x, 1, 0, 0, 1);
    Due.is("DOUBT", x.doubt(0, 1), 1);
  }

  private static void doubtsOfPlaces() {
    says("for each PLACE a DOUBT (0 to 9: how much it is doubted that it is false).");
    Syndromehouse x = new Syndromehouse();
    x.hear(9, 0);
    for (int place = 0; place < 9; place++) {
      x.doubt(place, 9 - place);
    }
    for (int place = 0; place < 9; place++) {
      Due.is("DOUBT of PLACE " + place, x.doubt(place, place == 8 ? 0 : 9), 9 - place);
    }
    Due.is("eight times 9, and 0", x.letter(3), 72);
    for (int wrong : new int[] {-1, 10}) {
      int doubt = wrong;
      Edges.argument(x, "DOUBT " + doubt, () -> x.doubt(0, doubt));
    }
    for (int place = 8; place >= 0; place--) {
      x.undo();
    }
    Due.is("undone", x.letter(3), 45);
  }

  private static void writing() {
    says("hear(), say() and what mends it write a WORD into it (also the same one): none is LOST then;");
    for (int how = 0; how < 7; how++) {
      Syndromehouse x = lostInEight();
      int steps = x.house(0);
      write(x, how);
      Edges.letter("written by " + how, x, 8, 255, 0, 15);
      Due.is("the same WORD is a step, too, " + how, x.house(0), steps + 1);
      x.undo();
      Edges.letter("undone of " + how, x, 8, 255, 129, 15);
    }
    says("DOUBTS stay, but are all 1, if it had another LENGTH before.");
    for (int length = 1; length <= 9; length++) {
      Syndromehouse x = lostInEight();
      x.hear(length, 0);
      Edges.letter("of LENGTH " + length, x, length, 0, 0, length == 8 ? 15 : length);
      x.zero(1, 8);
      x.say(1, 0);
      Edges.letter("back from " + length, x, 8, 0, 0, length == 8 ? 15 : 8);
      x.undo();
      x.undo();
      x.undo();
      Edges.letter("undone from " + length, x, 8, 255, 129, 15);
    }
    says("flip() leaves LOST PLACES LOST.");
    Syndromehouse x = lostInEight();
    x.flip(0);
    x.flip(7);
    x.flip(3);
    Edges.letter("flipped", x, 8, 255 - 1 - 128 - 8, 129, 15);
  }

  /** The letter is the word of all eight places, of the code 0, too; its first and last place are lost. */
  private static Syndromehouse lostInEight() {
    Syndromehouse x = Edges.with(8, 255);
    x.hear(8, 255);
    x.doubt(5, 8);
    x.lose(0, true);
    x.lose(7, true);
    return x;
  }

  private static void write(Syndromehouse x, int how) {
    switch (how) {
      case 0: Due.is("hear()", x.hear(8, 255), 8); break;
      case 1: Due.is("say()", x.say(0, 1), 255); break;
      case 2: Due.is("mend()", x.mend(0), 0); break;
      case 3: Due.is("byPlace()", x.byPlace(0), -1); break;
      case 4: Due.is("byDoubt()", x.byDoubt(0), 0); break;
      case 5: Due.is("byRounds()", x.byRounds(0, 0), 0); break;
      default: Due.is("byVotes()", x.byVotes(), 1); break;
    }
  }

  private static void nearness() {
    says("Mended by a CODE (of its LENGTH, otherwise -8) it becomes a WORD of that:");
    for (int length = 1; length <= 9; length++) {
      for (int other = 1; other <= 9; other++) {
        Syndromehouse x = Edges.with(length);
        x.hear(other, 0);
        boolean isFit = length == other;
        Due.is("mend() of " + length + ", " + other, x.mend(0), isFit ? 0 : -8);
        Due.is("byPlace() of " + length + ", " + other, x.byPlace(0), isFit ? -1 : -8);
        Due.is("byDoubt() of " + length + ", " + other, x.byDoubt(0), isFit ? 0 : -8);
        Due.is("byRounds() of " + length + ", " + other, x.byRounds(0, 0), isFit ? 0 : -8);
        Due.is("counted of " + length + ", " + other, x.house(4), isFit ? 0 : 4);
      }
    }
    says("by NEARNESS: the one that has the fewest unlike PLACES, of those that are not LOST; BEYOND MENDING, if there are several such.");
    Syndromehouse x = Edges.with(4, 15);
    x.hear(4, 1);
    Due.is("one is nearer", x.mend(0), 1);
    x.hear(4, 3);
    Edges.told(x, "both are as near", -7, () -> x.mend(0));
    x.lose(0, true);
    Due.is("one is nearer by a LOST PLACE", x.mend(0), 1);
    Edges.letter("that is", x, 4, 0, 0, 4);
    x.hear(4, 15);
    for (int place = 0; place < 3; place++) {
      x.lose(place, true);
    }
    Due.is("one PLACE is left", x.mend(0), 0);
    x.hear(4, 0);
    for (int place = 0; place < 4; place++) {
      x.lose(place, true);
    }
    Edges.told(x, "no PLACE is left", -7, () -> x.mend(0));
    x.zero(0, 4);
    Due.is("no PLACE is left, but there is one WORD alone", x.mend(0), 0);
  }

  private static void place() {
    says("by PLACE: if its SYNDROME is 0, it stays; otherwise the first PLACE p for which the WORD of just p has that SYNDROME is changed; BEYOND MENDING, if there is none.");
    // The WORDS of the PLACES 1, 4 and 8 have one SYNDROME, those of 0 and 5 the SYNDROME 0.
    Syndromehouse x = Edges.with(9, 1, 32, 0b000010010, 0b100010000);
    x.hear(9, 0b000100001);
    Due.is("SYNDROME 0", x.byPlace(0), -1);
    Edges.letter("it stays", x, 9, 33, 0, 9);
    x.hear(9, 0b000100001 | 16);
    Due.is("the first of three", x.byPlace(0), 1);
    Edges.letter("though another one is false", x, 9, 33 | 16 | 2, 0, 9);
    x.hear(9, 0b010000000);
    Due.is("the only one", x.byPlace(0), 7);
    Edges.letter("the only one", x, 9, 0, 0, 9);
    x.hear(9, 0b010000010);
    Edges.told(x, "no PLACE has that SYNDROME", -7, () -> x.byPlace(0));
    says("(LOST PLACES count as they are.)");
    x.lose(7, true);
    Edges.told(x, "a LOST one counts", -7, () -> x.byPlace(0));
    x.flip(1);
    Due.is("a LOST one is changed", x.byPlace(0), 7);
    x.all(0, 9);
    x.hear(9, 511);
    Due.is("of all WORDS", x.byPlace(0), -1);
    x.zero(0, 9);
    x.hear(9, 256);
    Due.is("of 0 alone, the last PLACE", x.byPlace(0), 8);
  }

  private static void doubts() {
    says("by DOUBT: of all sets of PLACES whose SUM with it is in the CODE, that with the least sum of DOUBTS, of several the smallest set: those PLACES are changed.");
    Syndromehouse x = Edges.with(4, 15);
    x.hear(4, 6);
    Due.is("6 and 9 are as dear", x.byDoubt(0), 2);
    Edges.letter("6 is smaller", x, 4, 0, 0, 4);
    x.hear(4, 9);
    Due.is("9 and 6 are as dear", x.byDoubt(0), 2);
    Edges.letter("6 is smaller again", x, 4, 15, 0, 4);
    for (int place = 0; place < 4; place++) {
      x.doubt(place, 9);
    }
    x.zero(1, 4);
    Due.is("all are changed", x.byDoubt(1), 36);
    Edges.letter("all are changed", x, 4, 0, 0, 36);
    x.hear(4, 9);
    x.doubt(1, 0);
    x.doubt(2, 0);
    Due.is("nothing is doubted of 6", x.byDoubt(0), 0);
    Edges.letter("6 is free", x, 4, 15, 0, 18);
    Edges.put(x, 2, 6, 63);
    x.hear(6, 56);
    Due.is("56 and 7 are as dear", x.byDoubt(2), 3);
    Edges.letter("7 is smaller", x, 6, 63, 0, 6);
    x.all(0, 4);
    x.hear(4, 9);
    x.doubt(0, 0);
    Due.is("the empty set is the smallest", x.byDoubt(0), 0);
    Edges.letter("nothing is changed", x, 4, 9, 0, 3);
    says("(LOST PLACES have DOUBT 0.)");
    x.zero(0, 4);
    x.doubt(3, 9);
    x.lose(3, true);
    Due.is("a LOST one is free", x.byDoubt(0), 0);
    Edges.letter("and has its DOUBT again", x, 4, 0, 0, 11);
    x.hear(4, 9);
    Due.is("it is there again", x.byDoubt(0), 9);
    Edges.put(x, 0, 4, 15);
    x.hear(4, 9);
    x.lose(3, true);
    Due.is("9 costs less than 6, since the PLACE 3 is LOST", x.byDoubt(0), 0);
    Edges.letter("9 is changed", x, 4, 0, 0, 11);
    x.hear(4, 1);
    for (int place = 0; place < 4; place++) {
      x.lose(place, true);
    }
    Due.is("all are LOST", x.byDoubt(0), 0);
    Edges.letter("the smallest set", x, 4, 0, 0, 11);
  }

  private static void rounds() {
    says("by ROUNDS: as long as it is not in the CODE: of all PLACES the one that is in the most CHECKS to which it is not SQUARE is changed, of several the smallest; BEYOND MENDING, if it is not in the CODE behind as many ROUNDS as are let.");
    for (int rounds = 0; rounds <= 20; rounds++) {
      int let = rounds;
      Syndromehouse y = Edges.with(9);
      y.hear(9, 511);
      if (rounds < 9) {
        Edges.told(y, "nine PLACES, by " + rounds, -7, () -> y.byRounds(0, let));
      } else {
        Due.is("nine PLACES, by " + rounds, y.byRounds(0, let), 9);
        Edges.letter("nine PLACES", y, 9, 0, 0, 9);
      }
    }
    Syndromehouse x = new Syndromehouse();
    x.all(0, 9);
    x.hear(9, 511);
    Due.is("no ROUND is needed", x.byRounds(0, 0), 0);
    // Each ROUND changes the PLACE 0, which all CHECKS have: the word goes to and fro.
    Edges.put(x, 1, 5, 31);
    x.hear(5, 3);
    Edges.told(x, "no end", -7, () -> x.byRounds(1, 20));
    Edges.told(x, "no end by 19", -7, () -> x.byRounds(1, 19));
    Edges.put(x, 1, 6, 33);
    x.hear(6, 62);
    Edges.told(x, "four ROUNDS are too few", -7, () -> x.byRounds(1, 4));
    x.lose(5, true);
    Due.is("five ROUNDS", x.byRounds(1, 5), 5);
    Edges.letter("a LOST PLACE counts as it is", x, 6, 33, 0, 6);
  }

  private static void votes() {
    says("by VOTES (LENGTH 8 alone; LOST PLACES count as they are):");
    for (int length = 1; length <= 9; length++) {
      Syndromehouse x = new Syndromehouse();
      x.hear(length, 0);
      x.lose(0, true);
      if (length == 8) {
        Due.is("LENGTH 8", x.byVotes(), 0);
      } else {
        Edges.told(x, "LENGTH " + length, -8, () -> x.byVotes());
      }
    }
    for (int word : new int[] {170, 204, 240, 170 ^ 1}) {
      Syndromehouse x = new Syndromehouse();
      x.hear(8, word);
      for (int place = 0; place < 8; place++) {
        x.lose(place, true);
      }
      Due.is("all are LOST of " + word, x.byVotes(), word == 204 ? 4 : word == 240 ? 8 : 2);
    }
    says("If three or four votes are 1, a(i) is 1, if none or one is, it is 0; BEYOND MENDING with two.");
    int[] ones = {170, 204, 240};
    for (int i = 0; i < 3; i++) {
      vote("no vote for a(" + i + ")", 0, 0);
      vote("one vote for a(" + i + ")", 1 << 3, 0);
      vote("three votes for a(" + i + ")", ones[i] ^ 1 << 5, 2 << i);
      vote("four votes for a(" + i + ")", ones[i], 2 << i);
    }
    vote("two votes for a(2) and a(3)", 3, -7);
    vote("two votes for a(1) and a(3)", 5, -7);
    vote("two votes for a(1) and a(2)", 17, -7);
    vote("two votes for each", 129, -7);
    says("a vote for a(0); five or more: 1, three or fewer: 0; BEYOND MENDING with four.");
    vote("no vote", 0, 0);
    vote("one vote", 1, 0);
    vote("seven votes", 254, 1);
    vote("eight votes", 255, 1);
    // Of all 256 WORDS none gets other numbers of votes for a(0): those with two votes for an a(i) went before.
    int mended = 0;
    for (int word = 0; word < 256; word++) {
      Syndromehouse x = new Syndromehouse();
      x.hear(8, word);
      int told = x.byVotes();
      int changed = Integer.bitCount(word ^ x.letter(1));
      Due.is("one PLACE at most is changed of " + word, told == -7 ? changed == 0 : changed <= 1, true);
      mended += told == -7 ? 0 : 1;
    }
    Due.is("16 WORDS, and those one PLACE off", mended, 16 + 16 * 8);
  }

  private static void vote(String what, int word, int due) {
    Syndromehouse x = new Syndromehouse();
    x.hear(8, word);
    if (due == -7) {
      Edges.told(x, what, -7, () -> x.byVotes());
    } else {
      Due.is(what, x.byVotes(), due);
    }
  }

  private static void stream() {
    says("TAPS are two sets A and B of 0 to 2 (not empty; 7 and 5 at first).");
    Syndromehouse x = new Syndromehouse();
    Due.is("at first", x.taps(7, 7), 8 * 7 + 5);
    for (int empty = 0; empty <= 8; empty += 8) {
      int set = empty;
      Edges.argument(x, "A " + set, () -> x.taps(set, 1));
      Edges.argument(x, "B " + set, () -> x.taps(1, set));
    }
    says("A message of m signs (1 to 8; the sign i is 1, if i is in the set of the message) is sent: behind it come two noughts;");
    x.taps(1, 1);
    x.send(1, 1);
    Due.is("one sign and two noughts", x.stream(), "110000");
    x.send(129, 8);
    Due.is("eight signs and two noughts", x.stream(), "11000000000000110000");
    says("with the sign ahead of it (0 at first) and the one ahead of that:");
    x.taps(2, 4);
    x.send(1, 1);
    Due.is("nothing is ahead of the first sign", x.stream(), "001001");
    x.send(3, 2);
    Due.is("nor two ahead of the second one", x.stream(), "00101101");
    says("The STREAM are these 2 * (m + 2) signs (empty at first).");
    Syndromehouse y = new Syndromehouse();
    Due.is("at first", y.stream(), "-");
    Due.is("no signs at first", y.house(3), 0);
    Edges.index(y, "none to spoil at first", () -> y.spoil(0));
    for (int many = 1; many <= 8; many++) {
      y.send(0, many);
      Due.is("signs of " + many, y.house(3), 2 * (many + 2));
      Due.is("text of " + many, y.stream().length(), 2 * (many + 2));
    }
  }

  private static void cost() {
    says("how many signs of the STREAM are unlike those that would be sent (by the TAPS of now).");
    Syndromehouse x = new Syndromehouse();
    x.send(1, 1);
    Due.is("none is unlike", x.cost(1), 0);
    for (int i = 0; i < 6; i++) {
      x.spoil(i);
    }
    Due.is("all are unlike", x.cost(1), 6);
    x.send(0, 8);
    x.taps(1, 1);
    Due.is("by other TAPS 16 are unlike", x.cost(255), 16);
    says("COST of a message of m signs: how many signs of the STREAM are unlike those that would be sent");
    Syndromehouse y = new Syndromehouse();
    y.send(0, 1);
    y.spoil(2);
    y.spoil(3);
    y.spoil(4);
    // A message of two signs, 2, would send 00111011: but it is none of one sign.
    Due.is("the least COST of one sign", y.walk(true), 3);
    Due.is("a message of one sign", y.walk(false), 0);
    Due.is("no COST of two signs", y.cost(2), -1);
    Due.is("no more than 0 and 1 cost", y.isSound(), true);
    says("The walk of least COST: that message, of several the smallest.");
    // Each message differs from each other one by twice as many signs: eight spoiled ones make 256 as cheap.
    for (int i = 0; i < 8; i++) {
      x.spoil(2 * i);
    }
    Due.is("all 256 cost 8", x.walk(true), 8);
    Due.is("the smallest of them", x.walk(false), 0);
    Due.is("the greatest of them", x.cost(255), 8);
    x.spoil(15);
    Due.is("one is less dear", x.walk(true), 7);
    Due.is("and the smallest of 128", x.walk(false), 128);
  }

  private static void steps() {
    says("Each call under the headings «codes», «the letter» and «the stream» below that throws nothing, and tells neither -7 nor -8, is a STEP BACK to come (also if it changes nothing);");
    for (int i = 0; i < doneOnce(new Syndromehouse()).size(); i++) {
      Syndromehouse x = new Syndromehouse();
      String before = Edges.seen(x);
      Due.is("call " + i + " can be done", (Integer) doneOnce(x).get(i).answer() >= -1, true);
      Due.is("call " + i + " is a step", x.house(0), 1);
      Due.is("undo of " + i, x.undo(), 0);
      Due.is("undone " + i, Edges.seen(x), before);
    }
    Syndromehouse x = new Syndromehouse();
    x.hear(8, 1);
    Due.is("byVotes()", x.byVotes(), 0);
    x.send(0, 1);
    x.spoil(0);
    x.zero(1, 3);
    x.pierce(1, 0);
    x.shorter(1, 0);
    Due.is("each of the rest", x.house(0), 7);
    List<Due.Call> asking = List.of(() -> x.knock(), () -> x.ofCode(1, 0), () -> x.line(1, 0, true),
        () -> x.nth(1, 0), () -> x.syndrome(1, 0), () -> x.leader(1, 0), () -> x.weights(1, 0, true),
        () -> x.chance(1, 1, 2), () -> x.like(1, 1), () -> x.ways(1), () -> x.text(1), () -> x.letter(0),
        () -> x.within(1, 0), () -> x.nearest(1, 0), () -> x.walk(true), () -> x.cost(0), () -> x.stream(),
        () -> x.house(0), () -> x.isSound(), () -> x.digest());
    for (Due.Call call : asking) {
      call.answer();
      Due.is("what is asked is no step", x.house(0), 7);
    }
    says("the CODE, the LETTER, or TAPS and STREAM are as they were before.");
    for (int i = 0; i < changing(busy()).size(); i++) {
      Syndromehouse y = busy();
      String before = withoutSteps(y);
      changing(y).get(i).answer();
      Due.is("call " + i + " changes something", withoutSteps(y).equals(before), false);
      Due.is("undo of " + i, y.undo(), 9);
      Due.is("undone " + i, withoutSteps(y), before);
    }
  }

  /** Calls that can be done in a new house; the first ones change nothing. */
  private static List<Due.Call> doneOnce(Syndromehouse x) {
    return List.of(() -> x.zero(0, 1), () -> x.row(0, 0), () -> x.check(0, 0), () -> x.multiply(0, 1),
        () -> x.blend(0, 0, true), () -> x.blend(0, 0, false), () -> x.move(0, 0, 0), () -> x.copy(0, 0),
        () -> x.hear(1, 0), () -> x.say(0, 0), () -> x.lose(0, false), () -> x.doubt(0, 1), () -> x.mend(0),
        () -> x.byPlace(0), () -> x.byDoubt(0), () -> x.byRounds(0, 0), () -> x.taps(7, 5),
        () -> x.all(0, 8), () -> x.shifts(0, 8, 255), () -> x.evaluated(0, 3, 1), () -> x.longer(0),
        () -> x.join(0, 0), () -> x.turn(0), () -> x.flip(0), () -> x.send(0, 1), () -> x.hear(8, 1));
  }

  /** Calls of which each changes something in the busy house. */
  private static List<Due.Call> changing(Syndromehouse y) {
    return List.of(() -> y.zero(0, 2), () -> y.all(0, 2), () -> y.row(2, 1), () -> y.check(2, 1),
        () -> y.shifts(0, 3, 3), () -> y.evaluated(0, 1, 0), () -> y.longer(2), () -> y.shorter(0, 8),
        () -> y.pierce(0, 8), () -> y.join(2, 2), () -> y.multiply(2, 1), () -> y.turn(1), () -> y.move(0, 0, 8),
        () -> y.copy(1, 0), () -> y.hear(5, 5), () -> y.say(0, 15), () -> y.flip(0), () -> y.lose(0, true),
        () -> y.doubt(0, 9), () -> y.byDoubt(2), () -> y.byRounds(2, 20), () -> y.taps(1, 2), () -> y.send(3, 2),
        () -> y.spoil(0));
  }

  private static void lastTen() {
    says("the last 10 can be undone:");
    for (int many = 0; many <= 23; many++) {
      Syndromehouse x = new Syndromehouse();
      for (int i = 1; i <= many; i++) {
        step(x, i);
      }
      int kept = Math.min(many, 10);
      Due.is("kept of " + many, x.house(0), kept);
      for (int i = 1; i <= kept; i++) {
        Due.is("undo " + i + " of " + many, x.undo(), kept - i);
        Syndromehouse twin = new Syndromehouse();
        for (int j = 1; j <= many - i; j++) {
          step(twin, j);
        }
        Due.is("undone " + i + " of " + many, withoutSteps(x), withoutSteps(twin));
      }
      Edges.state(x, "no more of " + many, () -> x.undo());
    }
  }

  /** Codes, letter and stream by turns. */
  private static void step(Syndromehouse x, int i) {
    switch (i % 4) {
      case 0: x.all(i % 3, 1 + i % 9); break;
      case 1: x.hear(1 + i % 9, 1); break;
      case 2: x.send(i % 8, 3 + i % 6); break;
      default: x.taps(1 + i % 7, 7 - i % 7); break;
    }
  }

  private static String withoutSteps(Syndromehouse x) {
    return Edges.seen(x).substring(Integer.toString(x.house(0)).length());
  }

  private static void keeper() {
    says("The KEEPER keeps no WORDS but these: who asks for others is REFUSED (counted).");
    Syndromehouse x = new Syndromehouse();
    Due.is("none at first", x.house(6), 0);
    String before = Edges.seen(x);
    Due.is("the first one", x.knock(), 1);
    Due.is("the second one", x.knock(), 2);
    Due.is("counted", x.house(6), 2);
    Due.is("nothing else changed", Edges.seen(x), before);
  }
}
