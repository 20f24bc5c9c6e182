/** Promises 27 to 31 and 45 to 48: the stream, steps back, and what is asked of both. */
public final class StreamTest {
  private StreamTest() {
  }

  public static void main(String[] args) {
    taps();
    send();
    spoil();
    walkAndCost();
    undoOfEach();
    undoOfTen();
    noSteps();
    knock();
    house();
    Due.end("StreamTest");
  }

  private static void taps() {
    Syndromehouse x = new Syndromehouse();
    x.send(1, 1);
    Due.is("taps(1, 6)", x.taps(1, 6), 61);
    Due.is("the STREAM stays", x.stream(), "111011");
    Due.is("A", x.house(1), 1);
    Due.is("B", x.house(2), 6);
    Due.is("taps(7, 7)", x.taps(7, 7), 14);
    Due.is("taps(1, 1)", x.taps(1, 1), 63);
    Due.is("steps", x.house(0), 4);
    Due.argument("A 0", () -> x.taps(0, 1));
    Due.argument("A 8", () -> x.taps(8, 1));
    Due.argument("B 0", () -> x.taps(1, 0));
    Due.argument("B 8", () -> x.taps(1, 8));
    Due.argument("A -1", () -> x.taps(-1, 1));
    Due.is("TAPS behind exceptions", 8 * x.house(1) + x.house(2), 9);
    Due.is("steps behind exceptions", x.house(0), 4);
  }

  private static void send() {
    Syndromehouse x = new Syndromehouse();
    Due.is("send(1, 1)", x.send(1, 1), 5);
    Due.is("one sign", x.stream(), "111011");
    Due.is("send(2, 2)", x.send(2, 2), 5);
    Due.is("the sign of 0 is sent first", x.stream(), "00111011");
    Due.is("send(5, 3)", x.send(5, 3), 6);
    Due.is("three signs", x.stream(), "1110001011");
    x.taps(1, 2);
    Due.is("A is this sign, B the one ahead", x.send(1, 2), 2);
    Due.is("A is this sign", x.stream(), "10010000");
    x.taps(4, 6);
    Due.is("the one ahead of that", x.send(1, 1), 3);
    Due.is("the one ahead of that: STREAM", x.stream(), "000111");
    Due.is("send(255, 8)", x.send(255, 8), 10);
    Due.is("eight signs", x.stream(), "00011010101010101011");
    Due.argument("many 0", () -> x.send(0, 0));
    Due.argument("many 9", () -> x.send(0, 9));
    Due.argument("message 2 of one sign", () -> x.send(2, 1));
    Due.argument("message 256 of eight", () -> x.send(256, 8));
    Due.argument("message -1", () -> x.send(-1, 8));
    Due.argument("many -1", () -> x.send(0, -1));
    Due.argument("many 32", () -> x.send(0, 32));
    Due.is("STREAM behind exceptions", x.house(3), 20);
  }

  private static void spoil() {
    Syndromehouse x = new Syndromehouse();
    Due.index("an empty STREAM", () -> x.spoil(0));
    x.send(1, 1);
    Due.is("spoil(0)", x.spoil(0), 0);
    Due.is("spoil(3)", x.spoil(3), 1);
    Due.is("spoil(5)", x.spoil(5), 0);
    Due.is("spoiled", x.stream(), "011110");
    Due.is("spoil(5) again", x.spoil(5), 1);
    Due.is("as it was", x.stream(), "011111");
    Due.is("steps", x.house(0), 5);
    Due.index("sign 6", () -> x.spoil(6));
    Due.index("sign -1", () -> x.spoil(-1));
    Due.index("sign 32", () -> x.spoil(32));
    Due.is("steps behind exceptions", x.house(0), 5);
  }

  private static void walkAndCost() {
    Syndromehouse x = new Syndromehouse();
    Due.is("walk(true), empty", x.walk(true), -1);
    Due.is("walk(false), empty", x.walk(false), -1);
    Due.is("cost(0), empty", x.cost(0), -1);
    Due.is("stream(), empty", x.stream(), "-");
    x.send(5, 3);
    Due.is("as sent", x.walk(true), 0);
    Due.is("as sent: message", x.walk(false), 5);
    Due.is("cost(5)", x.cost(5), 0);
    Due.is("cost(0)", x.cost(0), 6);
    Due.is("cost(7)", x.cost(7), 5);
    Due.is("no such message", x.cost(8), -1);
    Due.is("message -1", x.cost(-1), -1);
    x.spoil(0);
    x.spoil(9);
    Due.is("two are spoiled", x.walk(true), 2);
    Due.is("two are spoiled: message", x.walk(false), 5);
    // By taps(1, 1) each sign is sent twice: 1 and 0 are as dear for one that was spoiled.
    x.taps(1, 1);
    x.send(1, 1);
    x.spoil(0);
    Due.is("of two messages: COST", x.walk(true), 1);
    Due.is("of two messages the smallest", x.walk(false), 0);
    x.taps(7, 5);
    Due.is("by the TAPS of now", x.cost(1), 4);
    Due.is("by the TAPS of now: walk", x.walk(true), 1);
    Due.is("these calls are no steps", x.house(0), 7);
    x.send(255, 8);
    Due.is("cost(255)", x.cost(255), 0);
    Due.is("cost(256)", x.cost(256), -1);
    Due.is("cost(MAX)", x.cost(Integer.MAX_VALUE), -1);
    Due.is("walk of eight", x.walk(false), 255);
  }

  private static void undoOfEach() {
    Syndromehouse x = new Syndromehouse();
    Due.state("none can be undone", () -> x.undo());
    x.shifts(0, 7, 11);
    x.hear(7, 127);
    x.doubt(3, 8);
    x.lose(2, true);
    x.hear(7, 126);
    x.mend(0);
    x.send(3, 2);
    x.taps(2, 3);
    x.spoil(1);
    x.longer(0);
    Due.is("ten steps", x.house(0), 10);
    Due.is("undo longer", x.undo(), 9);
    Due.is("the CODE", x.text(0), "1000110 0100011 0010111 0001101");
    Due.is("its CHECK, too", x.line(0, 2, true), 116);
    Due.is("undo spoil", x.undo(), 8);
    Due.is("the STREAM", x.stream(), "11010111");
    Due.is("undo taps", x.undo(), 7);
    Due.is("TAPS", 8 * x.house(1) + x.house(2), 61);
    Due.is("undo send", x.undo(), 6);
    Due.is("no STREAM", x.stream(), "-");
    Due.is("undo mend", x.undo(), 5);
    Due.is("the LETTER", x.letter(1), 126);
    Due.is("undo hear", x.undo(), 4);
    Due.is("the LETTER of before", x.letter(1), 127);
    Due.is("LOST", x.letter(2), 4);
    Due.is("undo lose", x.undo(), 3);
    Due.is("none LOST", x.letter(2), 0);
    Due.is("DOUBTS", x.letter(3), 14);
    Due.is("undo doubt", x.undo(), 2);
    Due.is("DOUBTS are 1", x.letter(3), 7);
    Due.is("undo hear of another LENGTH", x.undo(), 1);
    Due.is("LENGTH", x.letter(0), 1);
    Due.is("undo shifts", x.undo(), 0);
    Due.is("as new", x.digest(), new Syndromehouse().digest());
    Due.state("none can be undone again", () -> x.undo());
  }

  private static void undoOfTen() {
    Syndromehouse x = new Syndromehouse();
    for (int length = 1; length <= 9; length++) {
      x.zero(1, length);
    }
    x.all(1, 1);
    x.all(1, 2);
    x.all(1, 3);
    Due.is("just ten are kept", x.house(0), 10);
    for (int still = 9; still >= 0; still--) {
      Due.is("undo to " + still, x.undo(), still);
    }
    Due.is("the first two stay", x.ofCode(1, 0), 2);
    Due.state("no more", () -> x.undo());
    x.zero(1, 7);
    Due.is("a new one comes", x.house(0), 1);
    Due.is("and goes", x.undo(), 0);
    Due.is("as before", x.ofCode(1, 0), 2);
  }

  private static void noSteps() {
    Syndromehouse x = new Syndromehouse();
    x.zero(0, 3);
    x.hear(3, 5);
    x.send(1, 1);
    x.byPlace(0);
    x.byVotes();
    x.longer(2);
    x.zero(2, 9);
    x.longer(2);
    Due.is("-7, -8 are no steps", x.house(0), 5);
    x.like(0, 2);
    x.ways(2);
    x.within(2, 9);
    x.nearest(2, 0);
    Due.is("-8 is counted of changing calls alone", x.house(4), 2);
    Due.is("-7 is counted", x.house(5), 1);
    x.ofCode(0, 2);
    x.walk(true);
    x.cost(0);
    x.knock();
    x.isSound();
    x.digest();
    Due.is("what is asked is no step", x.house(0), 5);
    x.undo();
    x.undo();
    x.undo();
    x.undo();
    x.undo();
    Due.is("counts are not undone", x.house(4) * 100 + x.house(5) * 10 + x.house(6), 211);
  }

  private static void knock() {
    Syndromehouse x = new Syndromehouse();
    for (int i = 1; i <= 12; i++) {
      Due.is("knock " + i, x.knock(), i);
    }
    Due.is("REFUSED", x.house(6), 12);
    Due.is("no step", x.house(0), 0);
    Due.state("nothing to undo", () -> x.undo());
  }

  private static void house() {
    Syndromehouse x = new Syndromehouse();
    x.taps(3, 6);
    x.send(0, 4);
    x.knock();
    x.pierce(0, 0);
    x.shorter(0, 0);
    x.zero(0, 2);
    x.hear(2, 3);
    x.byPlace(0);
    int[] due = {4, 3, 6, 12, 2, 1, 1};
    for (int what = 0; what <= 6; what++) {
      Due.is("house(" + what + ")", x.house(what), due[what]);
    }
    Due.argument("house(7)", () -> x.house(7));
    Due.argument("house(-1)", () -> x.house(-1));
  }
}
