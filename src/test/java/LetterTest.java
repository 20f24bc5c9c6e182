/** Promises 17 to 26: the letter, and what mends it. */
public final class LetterTest {
  private LetterTest() {
  }

  public static void main(String[] args) {
    hear();
    say();
    flip();
    lose();
    doubt();
    mend();
    byPlace();
    byDoubt();
    byRounds();
    byVotes();
    unlikeLengths();
    wrongCodes();
    Due.end("LetterTest");
  }

  /** A house whose code 0 is the WORD of all PLACES and 0. */
  private static Syndromehouse repeating(int length) {
    Syndromehouse x = new Syndromehouse();
    x.shifts(0, length, (1 << length) - 1);
    return x;
  }

  private static void shape(String what, Syndromehouse x, int length, int word, int lost, int doubts) {
    Due.is(what + ": LENGTH", x.letter(0), length);
    Due.is(what + ": WORD", x.letter(1), word);
    Due.is(what + ": LOST", x.letter(2), lost);
    Due.is(what + ": DOUBTS", x.letter(3), doubts);
  }

  private static void hear() {
    Syndromehouse x = new Syndromehouse();
    Due.is("hear(5, 19)", x.hear(5, 19), 3);
    shape("heard", x, 5, 19, 0, 5);
    x.doubt(4, 7);
    x.lose(2, true);
    shape("doubted and LOST", x, 5, 19, 4, 11);
    Due.is("hear(5, 19) again", x.hear(5, 19), 3);
    shape("DOUBTS stay, none LOST", x, 5, 19, 0, 11);
    Due.is("hear(6, 0)", x.hear(6, 0), 0);
    shape("DOUBTS are 1", x, 6, 0, 0, 6);
    x.hear(5, 0);
    shape("they are not remembered", x, 5, 0, 0, 5);
    Due.is("hear(9, 511)", x.hear(9, 511), 9);
    Due.is("hear(1, 1)", x.hear(1, 1), 1);
    Due.is("steps", x.house(0), 8);
    Due.argument("LENGTH 0", () -> x.hear(0, 0));
    Due.argument("LENGTH 10", () -> x.hear(10, 0));
    Due.argument("WORD of more PLACES", () -> x.hear(4, 16));
    Due.argument("WORD below 0", () -> x.hear(4, -1));
    shape("behind exceptions", x, 1, 1, 0, 1);
    Due.is("steps behind exceptions", x.house(0), 8);
  }

  private static void say() {
    Syndromehouse x = new Syndromehouse();
    x.shifts(0, 7, 11);
    x.hear(7, 1);
    x.lose(0, true);
    x.doubt(3, 9);
    Due.is("say(0, 9)", x.say(0, 9), 105);
    shape("DOUBTS stay, none LOST", x, 7, 105, 0, 15);
    Due.is("say(0, 15)", x.say(0, 15), 49 ^ 98 ^ 116 ^ 88);
    Due.is("say(0, 0)", x.say(0, 0), 0);
    Due.is("of 0 alone", x.say(1, 0), 0);
    shape("another LENGTH", x, 1, 0, 0, 1);
    Due.is("steps", x.house(0), 8);
    Due.argument("ROW 4", () -> x.say(0, 16));
    Due.argument("rows -1", () -> x.say(0, -1));
    Due.argument("no ROWS", () -> x.say(1, 1));
    Due.index("no CODE goes ahead", () -> x.say(3, -1));
    shape("behind exceptions", x, 1, 0, 0, 1);
    Due.is("steps behind exceptions", x.house(0), 8);
  }

  private static void flip() {
    Syndromehouse x = new Syndromehouse();
    x.hear(3, 5);
    x.lose(1, true);
    Due.is("flip(1)", x.flip(1), 7);
    Due.is("flip(2)", x.flip(2), 3);
    shape("LOST stays LOST", x, 3, 3, 2, 3);
    Due.is("steps", x.house(0), 4);
    Due.index("PLACE 3", () -> x.flip(3));
    Due.index("PLACE -1", () -> x.flip(-1));
    Due.index("PLACE 32", () -> x.flip(32));
    shape("behind exceptions", x, 3, 3, 2, 3);
    Due.is("steps behind exceptions", x.house(0), 4);
  }

  private static void lose() {
    Syndromehouse x = new Syndromehouse();
    x.hear(4, 15);
    Due.is("lose(3, true)", x.lose(3, true), 1);
    Due.is("lose(0, true)", x.lose(0, true), 2);
    Due.is("lose(0, true) again", x.lose(0, true), 2);
    Due.is("lose(1, false)", x.lose(1, false), 2);
    shape("two LOST", x, 4, 15, 9, 4);
    Due.is("lose(3, false)", x.lose(3, false), 1);
    shape("one LOST", x, 4, 15, 1, 4);
    Due.is("steps", x.house(0), 6);
    Due.index("PLACE 4", () -> x.lose(4, true));
    Due.index("PLACE -1", () -> x.lose(-1, false));
    Due.is("steps behind exceptions", x.house(0), 6);
  }

  private static void doubt() {
    Syndromehouse x = new Syndromehouse();
    x.hear(3, 0);
    Due.is("doubt(2, 9)", x.doubt(2, 9), 1);
    Due.is("doubt(2, 0)", x.doubt(2, 0), 9);
    Due.is("doubt(2, 4)", x.doubt(2, 4), 0);
    x.lose(2, true);
    shape("of LOST PLACES, too, as told", x, 3, 0, 4, 6);
    Due.is("of a LOST one", x.doubt(2, 5), 4);
    Due.is("steps", x.house(0), 6);
    Due.argument("DOUBT 10", () -> x.doubt(0, 10));
    Due.argument("DOUBT -1", () -> x.doubt(0, -1));
    Due.index("PLACE 3 goes ahead", () -> x.doubt(3, 10));
    Due.index("PLACE -1", () -> x.doubt(-1, 1));
    shape("behind exceptions", x, 3, 0, 4, 7);
    Due.is("steps behind exceptions", x.house(0), 6);
  }

  private static void mend() {
    Syndromehouse x = repeating(3);
    x.hear(3, 3);
    x.doubt(0, 9);
    Due.is("one is false", x.mend(0), 1);
    shape("mended", x, 3, 7, 0, 11);
    Due.is("none is false", x.mend(0), 0);
    Due.is("this is a step, too", x.house(0), 5);
    x.hear(3, 1);
    x.lose(1, true);
    x.lose(2, true);
    Due.is("LOST ones do not count", x.mend(0), 0);
    shape("none LOST then", x, 3, 7, 0, 11);
    x.lose(0, true);
    x.lose(1, true);
    x.lose(2, true);
    Due.is("all LOST", x.mend(0), -7);
    shape("as before", x, 3, 7, 7, 11);
    Due.is("-7 counted", x.house(5), 1);
    Due.is("0 alone is the nearest", copyOfZero(x).mend(1), 0);
    shape("it became 0", x, 3, 0, 0, 11);
    x.zero(1, 9);
    x.hear(9, 511);
    Due.is("all nine are false", x.mend(1), 9);
    shape("all nine are changed", x, 9, 0, 0, 9);
    Syndromehouse y = repeating(2);
    y.hear(2, 1);
    Due.is("two as near", y.mend(0), -7);
    Due.is("-7 is no step", y.house(0), 2);
    Due.is("-7 counted, of two", y.house(5), 1);
    y.lose(1, true);
    Due.is("one there", y.mend(0), 0);
    Due.is("one there: WORD", y.letter(1), 3);
  }

  private static Syndromehouse copyOfZero(Syndromehouse x) {
    x.zero(1, 3);
    return x;
  }

  private static void byPlace() {
    Syndromehouse x = repeating(3);
    x.hear(3, 3);
    x.doubt(1, 4);
    x.lose(0, true);
    Due.is("the PLACE", x.byPlace(0), 2);
    shape("mended", x, 3, 7, 0, 6);
    x.lose(0, true);
    Due.is("it stays", x.byPlace(0), -1);
    shape("none LOST then", x, 3, 7, 0, 6);
    Due.is("this is a step, too", x.house(0), 7);
    Syndromehouse y = repeating(2);
    y.hear(2, 2);
    Due.is("the first of two PLACES", y.byPlace(0), 0);
    Due.is("the first of two: WORD", y.letter(1), 3);
    Syndromehouse z = new Syndromehouse();
    z.zero(0, 3);
    z.hear(3, 5);
    z.lose(1, true);
    Due.is("no PLACE has that SYNDROME", z.byPlace(0), -7);
    shape("as before", z, 3, 5, 2, 3);
    Due.is("-7 counted", z.house(5), 1);
    Due.is("-7 is no step", z.house(0), 3);
    z.flip(0);
    Due.is("of 0 alone", z.byPlace(0), 2);
    Due.is("of 0 alone: WORD", z.letter(1), 0);
  }

  private static void byDoubt() {
    Syndromehouse x = repeating(3);
    x.hear(3, 1);
    Due.is("the least sum", x.byDoubt(0), 1);
    Due.is("the least sum: WORD", x.letter(1), 0);
    x.hear(3, 1);
    x.doubt(0, 9);
    Due.is("two that are doubted less", x.byDoubt(0), 2);
    shape("two changed", x, 3, 7, 0, 11);
    x.hear(3, 1);
    x.lose(0, true);
    Due.is("LOST ones have DOUBT 0", x.byDoubt(0), 0);
    shape("it is there again, DOUBT as told", x, 3, 0, 0, 11);
    x.hear(3, 1);
    x.doubt(0, 2);
    Due.is("of two the smallest set", x.byDoubt(0), 2);
    Due.is("of two: WORD", x.letter(1), 0);
    x.hear(3, 7);
    Due.is("nothing is false", x.byDoubt(0), 0);
    Due.is("nothing is false: WORD", x.letter(1), 7);
    x.doubt(0, 0);
    x.doubt(1, 0);
    x.doubt(2, 0);
    Due.is("all sums are 0: set 0", x.byDoubt(0), 0);
    Due.is("all sums are 0: WORD", x.letter(1), 7);
    x.zero(1, 3);
    x.doubt(1, 9);
    Due.is("0 alone", x.byDoubt(1), 9);
    shape("0 alone", x, 3, 0, 0, 9);
    Due.is("nothing was BEYOND MENDING", x.house(5), 0);
  }

  private static void byRounds() {
    Syndromehouse x = repeating(3);
    x.hear(3, 4);
    x.lose(2, true);
    x.doubt(1, 5);
    Due.is("no ROUND is let", x.byRounds(0, 0), -7);
    shape("as before", x, 3, 4, 4, 7);
    Due.is("-7 is no step", x.house(0), 4);
    Due.is("the PLACE of both CHECKS", x.byRounds(0, 1), 1);
    shape("mended", x, 3, 0, 0, 7);
    Due.is("no ROUND is needed", x.byRounds(0, 0), 0);
    x.hear(3, 1);
    Due.is("of two PLACES the smallest", x.byRounds(0, 20), 1);
    Due.is("of two PLACES: WORD", x.letter(1), 0);
    x.hear(3, 6);
    Due.is("one CHECK is false", x.byRounds(0, 20), 1);
    Due.is("one CHECK is false: WORD", x.letter(1), 7);
    Due.is("-7 counted", x.house(5), 1);
    Due.argument("21 ROUNDS", () -> x.byRounds(0, 21));
    Due.argument("-1 ROUNDS", () -> x.byRounds(0, -1));
    x.hear(4, 0);
    Due.argument("exceptions go ahead of -8", () -> x.byRounds(0, 21));
    Due.index("no CODE goes ahead", () -> x.byRounds(3, 21));
    // CHECKS are the three PLACES by themselves: a ROUND for each.
    x.zero(1, 3);
    x.hear(3, 7);
    Due.is("two ROUNDS are too few", x.byRounds(1, 2), -7);
    Due.is("three ROUNDS", x.byRounds(1, 3), 3);
    Due.is("three ROUNDS: WORD", x.letter(1), 0);
  }

  private static void byVotes() {
    int[] ones = {255, 170, 204, 240};
    for (int a = 0; a < 16; a++) {
      Syndromehouse x = new Syndromehouse();
      x.hear(8, 0);
      x.doubt(5, 3);
      int word = 0;
      for (int i = 0; i < 4; i++) {
        word ^= (a >> i & 1) * ones[i];
      }
      x.hear(8, word);
      Due.is("votes for " + a, x.byVotes(), a);
      Due.is("votes for " + a + ": WORD", x.letter(1), word);
      for (int place = 0; place < 8; place++) {
        x.hear(8, word ^ 1 << place);
        x.lose(place, true);
        Due.is("votes for " + a + " but " + place, x.byVotes(), a);
        shape("votes for " + a + " but " + place, x, 8, word, 0, 10);
        x.hear(8, word ^ 1 << place ^ 1 << (place + 3) % 8);
        x.lose(place, true);
        Due.is("two are false, " + place, x.byVotes(), -7);
        shape("two are false, " + place, x, 8, word ^ 1 << place ^ 1 << (place + 3) % 8, 1 << place, 10);
      }
      Due.is("-7 counted", x.house(5), 8);
    }
    Syndromehouse x = new Syndromehouse();
    x.hear(8, 15);
    Due.is("a(0) and a(3)", x.byVotes(), 9);
    x.hear(8, 0b10010111);
    Due.is("odd, but no votes are two", x.byVotes(), 14);
    x.hear(7, 0);
    Due.is("LENGTH 7", x.byVotes(), -8);
    x.hear(9, 0);
    Due.is("LENGTH 9", x.byVotes(), -8);
    Due.is("-8 counted", x.house(4), 2);
    Due.is("-7 not counted", x.house(5), 0);
  }

  private static void unlikeLengths() {
    Syndromehouse x = repeating(3);
    x.hear(4, 9);
    x.lose(0, true);
    Due.is("mend", x.mend(0), -8);
    Due.is("byPlace", x.byPlace(0), -8);
    Due.is("byDoubt", x.byDoubt(0), -8);
    Due.is("byRounds", x.byRounds(0, 20), -8);
    Due.is("byVotes", x.byVotes(), -8);
    shape("as before", x, 4, 9, 1, 4);
    Due.is("-8 counted", x.house(4), 5);
    Due.is("-7 not counted", x.house(5), 0);
    Due.is("no step", x.house(0), 3);
  }

  private static void wrongCodes() {
    Syndromehouse x = new Syndromehouse();
    for (int code : new int[] {-1, 3, Integer.MIN_VALUE, Integer.MAX_VALUE}) {
      Due.index("say", () -> x.say(code, 0));
      Due.index("mend", () -> x.mend(code));
      Due.index("byPlace", () -> x.byPlace(code));
      Due.index("byDoubt", () -> x.byDoubt(code));
      Due.index("byRounds", () -> x.byRounds(code, 0));
    }
    Due.is("nothing changed", x.digest(), new Syndromehouse().digest());
  }
}
