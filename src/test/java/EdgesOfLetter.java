/** The boundary sentences of promises 17 to 31: the letter, the stream, and steps back. */
final class EdgesOfLetter {
  private static final int[] NO_LENGTHS = {0, 10, -1, 33, Integer.MIN_VALUE, Integer.MAX_VALUE};

  private EdgesOfLetter() {
  }

  static void run() {
    hear();
    say();
    flip();
    lose();
    doubt();
    mend();
    byPlace();
    byDoubt();
    byRounds();
    byVotes();
    taps();
    send();
    spoil();
    undo();
    knock();
  }

  private static void hear() {
    Sentence.of(17, "Throws `IllegalArgumentException` if length is not 1 to 9, or word is no WORD of that LENGTH");
    Syndromehouse x = new Syndromehouse();
    x.hear(4, 9);
    Edges.arguments(x, "LENGTH", (y, length) -> y.hear(length, 0), NO_LENGTHS);
    for (int length = 1; length <= 9; length++) {
      int n = length;
      Edges.arguments(x, "WORD of " + n, (y, word) -> y.hear(n, word), 1 << n, -1, 1 << n | 1, Integer.MIN_VALUE,
          Integer.MAX_VALUE);
    }
    Sentence.of(17, "Returns its WEIGHT.");
    for (int length = 1; length <= 9; length++) {
      Due.is("0 of " + length, x.hear(length, 0), 0);
      Due.is("the last PLACE of " + length, x.hear(length, 1 << length - 1), 1);
      Due.is("all PLACES of " + length, x.hear(length, Edges.full(length)), length);
      Edges.letter("LENGTH " + length, x, length, Edges.full(length), 0, length);
    }
  }

  private static void say() {
    Edges.noCode(18, (x, code) -> x.say(code, 0));
    Sentence.of(18, "Throws `IllegalArgumentException` if rows is no set of numbers of ROWS");
    for (int k = 0; k <= 9; k++) {
      Syndromehouse x = Edges.with(9);
      for (int place = 0; place < k; place++) {
        x.row(0, 1 << place);
      }
      Edges.arguments(x, "of " + k, (y, rows) -> y.say(0, rows), 1 << k, -1, 1 << k | 1, Integer.MIN_VALUE,
          Integer.MAX_VALUE);
      Due.is("no ROW of " + k, x.say(0, 0), 0);
      Due.is("all ROWS of " + k, x.say(0, Edges.full(k)), Edges.full(k));
    }
    Sentence.of(18, "Returns that WORD.");
    Syndromehouse y = Edges.with(5, 7, 28);
    // The ROWS are 27 and 28.
    Due.is("both ROWS", y.say(0, 3), 7);
    Due.is("it is the LETTER", y.letter(1), 7);
    Due.is("of LENGTH", y.letter(0), 5);
  }

  /** A house with a letter of a length, all places of which have a 1. */
  private static Syndromehouse heard(int length) {
    Syndromehouse x = new Syndromehouse();
    x.hear(length, Edges.full(length));
    return x;
  }

  private static void noPlace(int promise, String sentence, Edges.OfCode call) {
    Sentence.of(promise, sentence);
    for (int length = 1; length <= 9; length++) {
      Edges.indices(heard(length), "PLACE of " + length, call, -1, length, 9, 31, 32, Integer.MIN_VALUE,
          Integer.MAX_VALUE);
      for (int place = 0; place < length; place++) {
        Syndromehouse x = heard(length);
        int it = place;
        Due.is("PLACE " + place + " of " + length, Due.outcome(() -> call.answer(x, it)) instanceof Integer, true);
      }
    }
  }

  private static void flip() {
    noPlace(19, "Throws `IndexOutOfBoundsException` if there is no such PLACE of it", (x, place) -> x.flip(place));
    Sentence.of(19, "Returns its WORD then.");
    Syndromehouse x = heard(9);
    Due.is("the first PLACE goes", x.flip(0), 510);
    Due.is("the last PLACE goes", x.flip(8), 254);
    Due.is("the last PLACE comes", x.flip(8), 510);
    Due.is("as told", x.letter(1), 510);
  }

  private static void lose() {
    noPlace(20, "Throws `IndexOutOfBoundsException` if there is no such PLACE of it", (x, place) -> x.lose(place, true));
    noPlace(20, "Throws `IndexOutOfBoundsException` if there is no such PLACE of it", (x, place) -> x.lose(place, false));
    Sentence.of(20, "Returns how many are LOST then.");
    Syndromehouse x = heard(9);
    for (int place = 0; place < 9; place++) {
      Due.is("it was not LOST", x.lose(place, false), place);
      Due.is("it is LOST", x.lose(place, true), place + 1);
      Due.is("it is LOST still", x.lose(place, true), place + 1);
    }
    Edges.letter("all are LOST", x, 9, 511, 511, 9);
    for (int place = 8; place >= 0; place--) {
      Due.is("it is there again", x.lose(place, false), place);
    }
    Edges.letter("none is LOST", x, 9, 511, 0, 9);
  }

  private static void doubt() {
    noPlace(21, "Throws `IndexOutOfBoundsException` if there is no such PLACE of the LETTER",
        (x, place) -> x.doubt(place, 0));
    Sentence.of(21, "Throws `IllegalArgumentException` if doubt is not 0 to 9");
    Syndromehouse x = heard(9);
    Edges.arguments(x, "DOUBT", (y, doubt) -> y.doubt(8, doubt), -1, 10, Integer.MIN_VALUE, Integer.MAX_VALUE);
    Sentence.of(21, "Returns the DOUBT before.");
    for (int place = 0; place < 9; place++) {
      Due.is("1 at first", x.doubt(place, 9), 1);
      Due.is("9 then", x.doubt(place, 0), 9);
      Due.is("0 then", x.doubt(place, 0), 0);
    }
    Edges.letter("none is doubted", x, 9, 511, 0, 0);
    for (int place = 0; place < 9; place++) {
      x.doubt(place, 9);
    }
    Edges.letter("all are doubted", x, 9, 511, 0, 81);
  }

  private static void mend() {
    Edges.noCode(22, (x, code) -> x.mend(code));
    Sentence.of(22, "Returns how many PLACES that are not LOST were changed, or -8, -7.");
    for (int length = 1; length <= 9; length++) {
      Syndromehouse x = heard(length);
      x.zero(0, length);
      Due.is("all of " + length, x.mend(0), length);
      Due.is("none of " + length, x.mend(0), 0);
      x.hear(length, Edges.full(length));
      x.lose(0, true);
      Due.is("all but a LOST one of " + length, x.mend(0), length - 1);
      Edges.letter("0", x, length, 0, 0, length);
      x.zero(1, length % 9 + 1);
      Edges.told(x, "another LENGTH", -8, () -> x.mend(1));
      x.row(0, Edges.full(length));
      for (int place = 0; place < length; place++) {
        x.lose(place, true);
      }
      Edges.told(x, "all are LOST", -7, () -> x.mend(0));
    }
  }

  private static void byPlace() {
    Edges.noCode(23, (x, code) -> x.byPlace(code));
    Sentence.of(23, "Returns the PLACE that was changed; NONE, if it stays; or -8, -7.");
    for (int length = 2; length <= 9; length++) {
      Syndromehouse x = heard(length);
      Edges.told(x, "another LENGTH", -8, () -> x.byPlace(0));
      Edges.put(x, 0, length, Edges.full(length));
      Due.is("it stays", x.byPlace(0), -1);
      x.flip(length - 1);
      Due.is("the last one of " + length, x.byPlace(0), length == 2 ? 0 : length - 1);
      x.flip(0);
      Due.is("the first one of " + length, x.byPlace(0), 0);
      x.zero(0, length);
      x.hear(length, 3);
      Edges.told(x, "two of " + length, -7, () -> x.byPlace(0));
    }
  }

  private static void byDoubt() {
    Edges.noCode(24, (x, code) -> x.byDoubt(code));
    Sentence.of(24, "Returns the sum of DOUBTS of what was changed, or -8.");
    for (int length = 2; length <= 9; length++) {
      Syndromehouse x = heard(length);
      Edges.told(x, "another LENGTH", -8, () -> x.byDoubt(0));
      x.zero(0, length);
      for (int place = 0; place < length; place++) {
        x.doubt(place, 9);
      }
      Due.is("all of " + length, x.byDoubt(0), 9 * length);
      Due.is("none of " + length, x.byDoubt(0), 0);
      x.hear(length, Edges.full(length));
      x.lose(length - 1, true);
      Due.is("all but a LOST one of " + length, x.byDoubt(0), 9 * (length - 1));
      Due.is("nothing was -7", x.house(5), 0);
    }
  }

  private static void byRounds() {
    Edges.noCode(25, (x, code) -> x.byRounds(code, 0));
    Edges.noCodeAsNamed((x, code) -> x.byRounds(code, 20));
    Sentence.of(25, "Throws `IllegalArgumentException` if rounds is not 0 to 20");
    Syndromehouse x = heard(9);
    x.zero(0, 9);
    Edges.arguments(x, "ROUNDS", (y, rounds) -> y.byRounds(0, rounds), -1, 21, Integer.MIN_VALUE, Integer.MAX_VALUE);
    Due.is("20 are let", x.byRounds(0, 20), 9);
    Due.is("0 are let", x.byRounds(0, 0), 0);
    Sentence.of(25, "Returns how many there were, or -8, -7.");
    for (int many = 0; many <= 9; many++) {
      int due = many;
      x.hear(9, Edges.full(many));
      Due.is("just as many, " + many, x.byRounds(0, many), many);
      Syndromehouse y = heard(9);
      y.zero(0, 9);
      y.hear(9, Edges.full(many));
      if (many > 0) {
        Edges.told(y, "one too few, " + many, -7, () -> y.byRounds(0, due - 1));
      }
      Edges.told(y, "another LENGTH", -8, () -> y.byRounds(1, 20));
    }
  }

  private static void byVotes() {
    Sentence.of(26, "Returns a(0) + 2 * a(1) + 4 * a(2) + 8 * a(3), or -8, -7.");
    int[] ones = {255, 170, 204, 240};
    for (int a = 0; a < 16; a++) {
      int word = 0;
      for (int i = 0; i < 4; i++) {
        word ^= (a >> i & 1) * ones[i];
      }
      for (int place = 0; place < 8; place++) {
        Syndromehouse x = new Syndromehouse();
        x.hear(8, word ^ 1 << place);
        Due.is("a PLACE off, " + a, x.byVotes(), a);
        Due.is("as it was, " + a, x.byVotes(), a);
        x.hear(8, word ^ 1 << place ^ 1 << (place + 1) % 8);
        Edges.told(x, "two PLACES off, " + a, -7, () -> x.byVotes());
        x.hear(9, word);
        Edges.told(x, "another LENGTH, " + a, -8, () -> x.byVotes());
      }
    }
  }

  private static void taps() {
    Sentence.of(27, "Throws `IllegalArgumentException` if a or b is not 1 to 7");
    Syndromehouse x = new Syndromehouse();
    Edges.arguments(x, "A", (y, set) -> y.taps(set, 1), 0, 8, -1, 9, Integer.MIN_VALUE, Integer.MAX_VALUE);
    Edges.arguments(x, "B", (y, set) -> y.taps(1, set), 0, 8, -1, 9, Integer.MIN_VALUE, Integer.MAX_VALUE);
    Edges.arguments(x, "both", (y, set) -> y.taps(set, set), 0, 8);
    Sentence.of(27, "Returns 8 * A + B as they were.");
    Due.is("at first", x.taps(1, 7), 61);
    Due.is("the least A, the greatest B", x.taps(7, 1), 15);
    Due.is("the greatest A, the least B", x.taps(7, 7), 57);
    Due.is("the greatest ones", x.taps(1, 1), 63);
    Due.is("the least ones", x.taps(1, 1), 9);
    Sentence.of(27, "Tells TAPS (the STREAM stays).");
    Due.is("an empty one", x.stream(), "-");
    x.send(3, 2);
    x.spoil(7);
    x.taps(7, 5);
    Due.is("a spoiled one", x.stream(), "11110001");
  }

  private static void send() {
    Sentence.of(28, "Throws `IllegalArgumentException` if many is not 1 to 8, or message not 0 to 2^many - 1");
    Syndromehouse x = new Syndromehouse();
    x.send(1, 1);
    Edges.arguments(x, "many", (y, many) -> y.send(0, many), 0, 9, -1, 32, 33, Integer.MIN_VALUE, Integer.MAX_VALUE);
    for (int many = 1; many <= 8; many++) {
      int m = many;
      Edges.arguments(x, "message of " + m, (y, message) -> y.send(message, m), 1 << m, -1, Integer.MIN_VALUE,
          Integer.MAX_VALUE);
    }
    Sentence.of(28, "Returns how many signs of the STREAM are 1.");
    Syndromehouse y = new Syndromehouse();
    for (int many = 1; many <= 8; many++) {
      Due.is("the least message of " + many, y.send(0, many), 0);
      y.taps(1, 1);
      Due.is("the greatest message of " + many, y.send(Edges.full(many), many), 2 * many);
      Due.is("STREAM of " + many, y.stream(), "11".repeat(many) + "0000");
      y.taps(4, 7);
      Due.is("the last sign alone of " + many, y.send(1 << many - 1, many), 4);
      Due.is("its STREAM of " + many, y.stream(), "00".repeat(many - 1) + "010111");
    }
  }

  private static void spoil() {
    Sentence.of(29, "Throws `IndexOutOfBoundsException` if there is none");
    Edges.indices(new Syndromehouse(), "an empty STREAM", (y, place) -> y.spoil(place), -1, 0, 1,
        Integer.MIN_VALUE, Integer.MAX_VALUE);
    for (int many = 1; many <= 8; many++) {
      Syndromehouse x = new Syndromehouse();
      int signs = 2 * (many + 2);
      x.send(0, many);
      Edges.indices(x, "STREAM of " + signs, (y, place) -> y.spoil(place), -1, signs, signs + 1, 32,
          Integer.MIN_VALUE, Integer.MAX_VALUE);
      Due.is("the first sign", x.spoil(0), 1);
      Due.is("the last sign", x.spoil(signs - 1), 1);
      Due.is("STREAM of " + signs, x.stream(), "1" + "0".repeat(signs - 2) + "1");
      Due.is("the last sign again", x.spoil(signs - 1), 0);
    }
    Syndromehouse x = new Syndromehouse();
    x.send(0, 8);
    x.send(0, 1);
    Edges.index(x, "a sign of a longer STREAM before", () -> x.spoil(6));
    x.undo();
    x.undo();
    Edges.index(x, "a sign of a STREAM undone", () -> x.spoil(0));
  }

  private static void undo() {
    Sentence.of(30, "Throws `IllegalStateException` if none can be undone");
    Syndromehouse x = new Syndromehouse();
    Edges.state(x, "at first", () -> x.undo());
    Edges.state(x, "again", () -> x.undo());
    x.longer(0);
    Due.is("one", x.undo(), 0);
    Edges.state(x, "an undone one", () -> x.undo());
    x.pierce(0, 0);
    x.byVotes();
    x.knock();
    Edges.state(x, "what is no step", () -> x.undo());
    Sentence.of(30, "Returns how many can be undone still.");
    Syndromehouse y = new Syndromehouse();
    for (int i = 1; i <= 12; i++) {
      y.taps(i % 7 + 1, 1);
    }
    for (int still = 9; still >= 5; still--) {
      Due.is("twelve steps, ten kept", y.undo(), still);
    }
    for (int i = 1; i <= 7; i++) {
      y.hear(i, 0);
      Due.is("steps behind undone ones", y.house(0), Math.min(5 + i, 10));
    }
    for (int still = 9; still >= 0; still--) {
      Due.is("ten again", y.undo(), still);
    }
    Due.is("four of the first ones are left", y.house(1), 5);
    Edges.state(y, "no more", () -> y.undo());
  }

  private static void knock() {
    Sentence.of(31, "Returns how many were REFUSED ever, with this.");
    Syndromehouse x = new Syndromehouse();
    for (int i = 1; i <= 100; i++) {
      Due.is("knock", x.knock(), i);
    }
    x.hear(2, 1);
    x.undo();
    Due.is("undo does not count back", x.knock(), 101);
    Due.is("house(6)", x.house(6), 101);
  }
}
