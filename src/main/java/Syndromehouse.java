/** Words that mend themselves: ../shared/DOC.md says what each call does, promise by promise. */
public final class Syndromehouse {

  private static final int NONE = -1;
  private static final int BEYOND_MENDING = -7;
  private static final int UNLIKE_LENGTHS = -8;

  private static final int MANY_CODES = 3;
  private static final int LONGEST = 9;
  private static final int LONGEST_MOVED = 6;

  private static final int STEP_OF_LETTER = MANY_CODES;
  private static final int STEP_OF_STREAM = MANY_CODES + 1;

  /** How many choices of y of x things there are, at 10 * x + y. */
  private static final int[] CHOICES = {
    1, 0, 0, 0, 0, 0, 0, 0, 0, 0,
    1, 1, 0, 0, 0, 0, 0, 0, 0, 0,
    1, 2, 1, 0, 0, 0, 0, 0, 0, 0,
    1, 3, 3, 1, 0, 0, 0, 0, 0, 0,
    1, 4, 6, 4, 1, 0, 0, 0, 0, 0,
    1, 5, 10, 10, 5, 1, 0, 0, 0, 0,
    1, 6, 15, 20, 15, 6, 1, 0, 0, 0,
    1, 7, 21, 35, 35, 21, 7, 1, 0, 0,
    1, 8, 28, 56, 70, 56, 28, 8, 1, 0,
    1, 9, 36, 84, 126, 126, 84, 36, 9, 1
  };

  private final Code[] codes;
  /** A new code is made here and then changes places with the old one: no code is made of itself half changed. */
  private Code spare;
  private final Letter heard;
  private final Sent sent;
  private final Steps steps;
  /** Rows on their way from place to place, for waysBetween(). */
  private final int[] moved;
  private int unlikeLengthsTold;
  private int beyondMendingTold;
  private int refused;

  public Syndromehouse() {
    codes = new Code[MANY_CODES];
    for (int i = 0; i < MANY_CODES; i++) {
      codes[i] = new Code();
    }
    spare = new Code();
    heard = new Letter();
    sent = new Sent();
    steps = new Steps();
    moved = new int[LONGEST];
  }

  // ---- codes

  public int zero(int code, int length) throws IndexOutOfBoundsException, IllegalArgumentException {
    int before = codeAt(code).dimension();
    needArgument(isLength(length));
    spare.start(length);
    replace(code);
    return before;
  }

  public int all(int code, int length) throws IndexOutOfBoundsException, IllegalArgumentException {
    int before = codeAt(code).dimension();
    needArgument(isLength(length));
    spare.start(length);
    for (int place = 0; place < length; place++) {
      spare.rows.include(1 << place);
    }
    replace(code);
    return before;
  }

  public int row(int code, int word) throws IndexOutOfBoundsException, IllegalArgumentException {
    Code it = codeAt(code);
    needArgument(isWord(word, it.length));
    spare.startLike(it);
    spare.rows.include(word);
    return replace(code);
  }

  public int check(int code, int word) throws IndexOutOfBoundsException, IllegalArgumentException {
    Code it = codeAt(code);
    needArgument(isWord(word, it.length));
    spare.start(it.length);
    spare.rows.takeSquareOnes(it.rows, word);
    return replace(code);
  }

  public int shifts(int code, int length, int polynomial) throws IndexOutOfBoundsException, IllegalArgumentException {
    codeAt(code);
    needArgument(isLength(length));
    needArgument(polynomial != 0 && isWord(polynomial, length));
    spare.start(length);
    for (int by = 0; by < length; by++) {
      int word = polynomial << by;
      if (isWord(word, length)) {
        spare.rows.include(word);
      }
    }
    return replace(code);
  }

  public int evaluated(int code, int m, int r) throws IndexOutOfBoundsException, IllegalArgumentException {
    codeAt(code);
    needArgument(m >= 0 && m <= 3);
    needArgument(r >= 0 && r <= m);
    spare.start(1 << m);
    for (int set = 0; set < 1 << m; set++) {
      if (Integer.bitCount(set) <= r) {
        spare.rows.include(placesWith(set, 1 << m));
      }
    }
    return replace(code);
  }

  public int longer(int code) throws IndexOutOfBoundsException {
    Code it = codeAt(code);
    if (it.length >= LONGEST) {
      return unlikeLengths();
    }
    spare.start(it.length + 1);
    for (int i = 0; i < it.dimension(); i++) {
      int word = it.rows.lines[i];
      spare.rows.include(word | parity(word) << it.length);
    }
    replace(code);
    return codes[code].length;
  }

  public int shorter(int code, int place) throws IndexOutOfBoundsException {
    Code it = codeAt(code);
    needIndex(isPlace(place, it.length));
    if (it.length == 1) {
      return unlikeLengths();
    }
    spare.work.takeSquareOnes(it.rows, 1 << place);
    spare.startPierced(spare.work, it.length, place);
    return replace(code);
  }

  public int pierce(int code, int place) throws IndexOutOfBoundsException {
    Code it = codeAt(code);
    needIndex(isPlace(place, it.length));
    if (it.length == 1) {
      return unlikeLengths();
    }
    spare.startPierced(it.rows, it.length, place);
    return replace(code);
  }

  public int join(int to, int other) throws IndexOutOfBoundsException {
    Code first = codeAt(to);
    Code second = codeAt(other);
    if (first.length + second.length > LONGEST) {
      return unlikeLengths();
    }
    spare.start(first.length + second.length);
    spare.rows.takeFrom(first.rows);
    for (int i = 0; i < second.dimension(); i++) {
      spare.rows.include(second.rows.lines[i] << first.length);
    }
    return replace(to);
  }

  public int multiply(int to, int other) throws IndexOutOfBoundsException {
    Code first = codeAt(to);
    Code second = codeAt(other);
    if (first.length * second.length > LONGEST) {
      return unlikeLengths();
    }
    spare.start(first.length * second.length);
    for (int i = 0; i < first.dimension(); i++) {
      for (int j = 0; j < second.dimension(); j++) {
        spare.rows.include(repeated(first.rows.lines[i], first.length, second.rows.lines[j]));
      }
    }
    return replace(to);
  }

  public int turn(int code) throws IndexOutOfBoundsException {
    Code it = codeAt(code);
    spare.start(it.length);
    spare.rows.takeFrom(it.checks);
    return replace(code);
  }

  public int blend(int to, int other, boolean isCommon) throws IndexOutOfBoundsException {
    Code first = codeAt(to);
    Code second = codeAt(other);
    if (first.length != second.length) {
      return unlikeLengths();
    }
    spare.start(first.length);
    if (isCommon) {
      // What is square to the checks of both is what both have.
      spare.work.takeFrom(first.checks);
      spare.work.includeAll(second.checks);
      spare.rows.becomeSquareTo(spare.work, first.length);
    } else {
      spare.rows.takeFrom(first.rows);
      spare.rows.includeAll(second.rows);
    }
    return replace(to);
  }

  public int move(int code, int one, int other) throws IndexOutOfBoundsException {
    Code it = codeAt(code);
    needIndex(isPlace(one, it.length) && isPlace(other, it.length));
    spare.start(it.length);
    for (int i = 0; i < it.dimension(); i++) {
      spare.rows.include(exchanged(it.rows.lines[i], one, other));
    }
    boolean isSame = spare.rows.isSame(it.rows);
    replace(code);
    return isSame ? 0 : 1;
  }

  public int copy(int to, int from) throws IndexOutOfBoundsException {
    codeAt(to);
    spare.startLike(codeAt(from));
    return replace(to);
  }

  // ---- the letter

  public int hear(int length, int word) throws IllegalArgumentException {
    needArgument(isLength(length));
    needArgument(isWord(word, length));
    writeLetter(length, word);
    return Integer.bitCount(word);
  }

  public int say(int code, int rows) throws IndexOutOfBoundsException, IllegalArgumentException {
    Code it = codeAt(code);
    needArgument(isWord(rows, it.dimension()));
    int word = it.rows.sumOf(rows);
    writeLetter(it.length, word);
    return word;
  }

  public int flip(int place) throws IndexOutOfBoundsException {
    needIndex(isPlace(place, heard.length));
    keepLetter();
    heard.word ^= 1 << place;
    return heard.word;
  }

  public int lose(int place, boolean is) throws IndexOutOfBoundsException {
    needIndex(isPlace(place, heard.length));
    keepLetter();
    heard.lost = is ? heard.lost | 1 << place : heard.lost & ~(1 << place);
    return Integer.bitCount(heard.lost);
  }

  public int doubt(int place, int doubt) throws IndexOutOfBoundsException, IllegalArgumentException {
    needIndex(isPlace(place, heard.length));
    needArgument(doubt >= 0 && doubt <= 9);
    keepLetter();
    int before = heard.doubts[place];
    heard.doubts[place] = doubt;
    return before;
  }

  public int mend(int code) throws IndexOutOfBoundsException {
    Code it = codeAt(code);
    if (it.length != heard.length) {
      return unlikeLengths();
    }
    int word = heard.nearestOf(it);
    if (word < 0) {
      return beyondMending();
    }
    int changed = heard.unlikePlaces(word);
    writeLetter(it.length, word);
    return changed;
  }

  public int byPlace(int code) throws IndexOutOfBoundsException {
    Code it = codeAt(code);
    if (it.length != heard.length) {
      return unlikeLengths();
    }
    int word = heard.word;
    int place = NONE;
    if (!it.has(word)) {
      place = it.firstPlaceOf(it.syndromes[word]);
      if (place < 0) {
        return beyondMending();
      }
      word ^= 1 << place;
    }
    writeLetter(it.length, word);
    return place;
  }

  public int byDoubt(int code) throws IndexOutOfBoundsException {
    Code it = codeAt(code);
    if (it.length != heard.length) {
      return unlikeLengths();
    }
    int set = heard.leastDoubted(it);
    int sum = heard.doubtsOf(set & ~heard.lost);
    writeLetter(it.length, heard.word ^ set);
    return sum;
  }

  public int byRounds(int code, int rounds) throws IndexOutOfBoundsException, IllegalArgumentException {
    Code it = codeAt(code);
    needArgument(rounds >= 0 && rounds <= 20);
    if (it.length != heard.length) {
      return unlikeLengths();
    }
    int word = heard.word;
    int done = 0;
    while (done < rounds && !it.has(word)) {
      word ^= 1 << it.placeOfMostFaults(word);
      done++;
    }
    if (!it.has(word)) {
      return beyondMending();
    }
    writeLetter(it.length, word);
    return done;
  }

  public int byVotes() {
    if (heard.length != 8) {
      return unlikeLengths();
    }
    int slopes = heard.votedSlopes();
    if (slopes < 0) {
      return beyondMending();
    }
    int start = heard.votedStart(slopes);
    if (start < 0) {
      return beyondMending();
    }
    writeLetter(8, slopedWord(slopes, start));
    return start + 2 * slopes;
  }

  // ---- the stream

  public int taps(int a, int b) throws IllegalArgumentException {
    needArgument(a >= 1 && a <= 7);
    needArgument(b >= 1 && b <= 7);
    keepStream();
    int before = 8 * sent.a + sent.b;
    sent.a = a;
    sent.b = b;
    return before;
  }

  public int send(int message, int many) throws IllegalArgumentException {
    needArgument(many >= 1 && many <= 8);
    needArgument(isWord(message, many));
    keepStream();
    sent.signs = sent.signsFor(message);
    sent.many = 2 * (many + 2);
    return Integer.bitCount(sent.signs);
  }

  public int spoil(int place) throws IndexOutOfBoundsException {
    needIndex(isPlace(place, sent.many));
    keepStream();
    sent.signs ^= 1 << place;
    return sent.signs >> place & 1;
  }

  // ---- steps back

  public int undo() throws IllegalStateException {
    if (steps.many <= 0) {
      throw new IllegalStateException("none can be undone");
    }
    int kind = steps.lastKind();
    int[] kept = steps.takeLast();
    if (kind == STEP_OF_STREAM) {
      sent.readFrom(kept);
    } else if (kind == STEP_OF_LETTER) {
      heard.readFrom(kept);
    } else {
      codeAt(kind).readFrom(kept);
    }
    return steps.many;
  }

  public int knock() {
    refused++;
    return refused;
  }

  // ---- what is asked of codes

  public int ofCode(int code, int what) throws IndexOutOfBoundsException, IllegalArgumentException {
    Code it = codeAt(code);
    needArgument(what >= 0 && what <= 11);
    return it.told(what);
  }

  public int line(int code, int nth, boolean isCheck) throws IndexOutOfBoundsException {
    Code it = codeAt(code);
    Basis asked = isCheck ? it.checks : it.rows;
    needIndex(nth >= 0 && nth < asked.size);
    return asked.lines[nth];
  }

  public int nth(int code, int nth) throws IndexOutOfBoundsException {
    Code it = codeAt(code);
    needIndex(isWord(nth, it.dimension()));
    return it.wordBehind(nth);
  }

  public int syndrome(int code, int word) throws IndexOutOfBoundsException, IllegalArgumentException {
    Code it = codeAt(code);
    needArgument(isWord(word, it.length));
    return it.syndromes[word];
  }

  public int leader(int code, int syndrome) throws IndexOutOfBoundsException, IllegalArgumentException {
    Code it = codeAt(code);
    needArgument(isWord(syndrome, it.checks.size));
    return it.leaders[syndrome];
  }

  public int weights(int code, int weight, boolean isOther) throws IndexOutOfBoundsException, IllegalArgumentException {
    Code it = codeAt(code);
    needArgument(weight >= 0 && weight <= it.length);
    return isOther ? it.exchange(weight) : it.counts[weight];
  }

  public String chance(int code, int top, int bottom) throws IndexOutOfBoundsException, IllegalArgumentException {
    Code it = codeAt(code);
    needArgument(bottom >= 2 && bottom <= 20);
    needArgument(top >= 1 && top < bottom);
    long all = power(bottom, it.length);
    long wrong = all - it.mendedOf(top, bottom);
    long common = Math.max(1, commonDivisor(all, wrong));
    StringBuilder text = new StringBuilder();
    appendNumber(text, wrong / common);
    if (all / common != 1) {
      text.append('/');
      appendNumber(text, all / common);
    }
    return text.toString();
  }

  public int like(int one, int other) throws IndexOutOfBoundsException {
    Code first = codeAt(one);
    Code second = codeAt(other);
    if (first.length > LONGEST_MOVED || second.length > LONGEST_MOVED) {
      return UNLIKE_LENGTHS;
    }
    return waysBetween(first, second) > 0 ? 1 : 0;
  }

  public int ways(int code) throws IndexOutOfBoundsException {
    Code it = codeAt(code);
    return it.length > LONGEST_MOVED ? UNLIKE_LENGTHS : waysBetween(it, it);
  }

  public String text(int code) throws IndexOutOfBoundsException {
    Code it = codeAt(code);
    if (it.dimension() == 0) {
      return "-";
    }
    StringBuilder text = new StringBuilder();
    for (int i = 0; i < it.dimension(); i++) {
      if (i > 0) {
        text.append(' ');
      }
      appendSigns(text, it.rows.lines[i], it.length);
    }
    return text.toString();
  }

  // ---- what is asked of the letter and the stream

  public int letter(int what) throws IllegalArgumentException {
    needArgument(what >= 0 && what <= 3);
    switch (what) {
      case 0: return heard.length;
      case 1: return heard.word;
      case 2: return heard.lost;
      default: return heard.doubtsOf((1 << heard.length) - 1);
    }
  }

  public int within(int code, int radius) throws IndexOutOfBoundsException, IllegalArgumentException {
    Code it = codeAt(code);
    needArgument(radius >= 0 && radius <= 9);
    if (it.length != heard.length) {
      return UNLIKE_LENGTHS;
    }
    int found = 0;
    for (int word = 0; word < 1 << it.length; word++) {
      if (it.has(word) && Integer.bitCount(word ^ heard.word) <= radius) {
        found++;
      }
    }
    return found;
  }

  public int nearest(int code, int nth) throws IndexOutOfBoundsException {
    Code it = codeAt(code);
    needIndex(isWord(nth, it.dimension()));
    if (it.length != heard.length) {
      return UNLIKE_LENGTHS;
    }
    int ahead = nth;
    for (int apart = 0; apart <= it.length; apart++) {
      for (int word = 0; word < 1 << it.length; word++) {
        if (Integer.bitCount(word ^ heard.word) == apart && it.has(word)) {
          if (ahead == 0) {
            return word;
          }
          ahead--;
        }
      }
    }
    return NONE;
  }

  public int walk(boolean isCost) {
    if (sent.many == 0) {
      return NONE;
    }
    int message = sent.cheapest();
    return isCost ? sent.costOf(message) : message;
  }

  public int cost(int message) {
    return sent.many == 0 || !isWord(message, sent.signsOfMessage()) ? NONE : sent.costOf(message);
  }

  public String stream() {
    if (sent.many == 0) {
      return "-";
    }
    StringBuilder text = new StringBuilder();
    appendSigns(text, sent.signs, sent.many);
    return text.toString();
  }

  public int house(int what) throws IllegalArgumentException {
    needArgument(what >= 0 && what <= 6);
    switch (what) {
      case 0: return steps.many;
      case 1: return sent.a;
      case 2: return sent.b;
      case 3: return sent.many;
      case 4: return unlikeLengthsTold;
      case 5: return beyondMendingTold;
      default: return refused;
    }
  }

  public boolean isSound() {
    for (int i = 0; i < MANY_CODES; i++) {
      Code it = codes[i];
      if (!it.isSquare() || !it.isExchangeListed() || !it.isDistanceMet()) {
        return false;
      }
      if (it.length == heard.length && !it.isLedHome(heard.word)) {
        return false;
      }
    }
    return sent.many == 0 || sent.isCheapestCheap();
  }

  public long digest() {
    long d = 6101;
    for (int what = 0; what <= 6; what++) {
      d = d * 31 + house(what);
    }
    for (int i = 0; i < MANY_CODES; i++) {
      d = digestCode(d, codes[i]);
    }
    for (int what = 0; what <= 3; what++) {
      d = d * 31 + letter(what);
    }
    d = d * 31 + walk(true);
    d = d * 31 + walk(false);
    d = d * 31 + Math.max(1, sent.many);
    return d * 31 + (isSound() ? 1 : 0);
  }

  private static long digestCode(long before, Code it) {
    long d = before;
    for (int what = 0; what <= 11; what++) {
      d = d * 31 + it.told(what);
    }
    for (int i = 0; i < it.rows.size; i++) {
      d = d * 31 + it.rows.lines[i];
    }
    for (int i = 0; i < it.checks.size; i++) {
      d = d * 31 + it.checks.lines[i];
    }
    for (int weight = 0; weight <= it.length; weight++) {
      d = d * 31 + it.counts[weight];
      d = d * 31 + it.exchange(weight);
    }
    // The text's length is reckoned: a text that nobody reads need not be made.
    int rows = it.dimension();
    return d * 31 + (rows == 0 ? 1 : rows * (it.length + 1) - 1);
  }

  // ---- what several calls need

  private static void needIndex(boolean isThere) {
    if (!isThere) {
      throw new IndexOutOfBoundsException("no such one");
    }
  }

  private static void needArgument(boolean isFit) {
    if (!isFit) {
      throw new IllegalArgumentException("not let");
    }
  }

  private Code codeAt(int code) {
    if (code < 0 || code >= codes.length) {
      throw new IndexOutOfBoundsException("no such CODE");
    }
    return codes[code];
  }

  private static boolean isLength(int length) {
    return length >= 1 && length <= LONGEST;
  }

  private static boolean isPlace(int place, int many) {
    return place >= 0 && place < many;
  }

  /** Whether it is a set of numbers below many (a shift by more than 30 would wrap). */
  private static boolean isWord(int word, int many) {
    return many >= 0 && many <= 30 && word >= 0 && word < 1 << many;
  }

  private static int parity(int word) {
    return Integer.bitCount(word) & 1;
  }

  private int unlikeLengths() {
    unlikeLengthsTold++;
    return UNLIKE_LENGTHS;
  }

  private int beyondMending() {
    beyondMendingTold++;
    return BEYOND_MENDING;
  }

  /** Lets the spare code, of which just length and rows are made, stand for this one; tells its dimension. */
  private int replace(int code) {
    Code old = codeAt(code);
    old.writeTo(steps.next(code));
    spare.settle();
    codes[code] = spare;
    spare = old;
    return codes[code].dimension();
  }

  private void keepLetter() {
    heard.writeTo(steps.next(STEP_OF_LETTER));
  }

  private void keepStream() {
    sent.writeTo(steps.next(STEP_OF_STREAM));
  }

  private void writeLetter(int length, int word) {
    keepLetter();
    heard.write(length, word);
  }

  /** The places of which each number of the set is a part. */
  private static int placesWith(int set, int length) {
    int word = 0;
    for (int place = 0; place < length; place++) {
      if ((place & set) == set) {
        word |= 1 << place;
      }
    }
    return word;
  }

  /** The word, once more for each place of the pattern. */
  private static int repeated(int word, int length, int pattern) {
    int result = 0;
    for (int j = 0; j < LONGEST; j++) {
      if ((pattern >> j & 1) == 1) {
        result |= word << length * j;
      }
    }
    return result;
  }

  private static int exchanged(int word, int one, int other) {
    int unlike = (word >> one ^ word >> other) & 1;
    return word ^ (unlike << one | unlike << other);
  }

  private static int without(int word, int place) {
    int below = (1 << place) - 1;
    return word & below | word >> 1 & ~below;
  }

  /** The word of eight places with a 1 where start and the slopes of the place's digits are together odd. */
  private static int slopedWord(int slopes, int start) {
    int word = 0;
    for (int place = 0; place < 8; place++) {
      word |= (start ^ parity(place & slopes)) << place;
    }
    return word;
  }

  private static int choices(int of, int many) {
    return of < 0 || of > 9 || many < 0 || many > 9 ? 0 : CHOICES[10 * of + many];
  }

  private static long power(int base, int exponent) {
    long result = 1;
    for (int i = 0; i < exponent; i++) {
      result *= base;
    }
    return result;
  }

  private static long commonDivisor(long one, long other) {
    long a = one;
    long b = other;
    // Each second step halves what is left, so that this bound is far off.
    for (int step = 0; step < 1000 && b != 0; step++) {
      long rest = a % b;
      a = b;
      b = rest;
    }
    return a;
  }

  private static void appendNumber(StringBuilder text, long number) {
    boolean isBegun = false;
    for (long unit = 1000000000000L; unit > 0; unit /= 10) {
      int digit = (int) (number / unit % 10);
      isBegun = isBegun || digit > 0 || unit == 1;
      if (isBegun) {
        text.append((char) ('0' + digit));
      }
    }
  }

  private static void appendSigns(StringBuilder text, int word, int many) {
    for (int place = 0; place < many; place++) {
      text.append((word >> place & 1) == 1 ? '1' : '0');
    }
  }

  /** How many ways to move the places make the words of one those of the other one. */
  private int waysBetween(Code one, Code other) {
    int many = one.dimension();
    if (one.length != other.length || many != other.dimension()) {
      return 0;
    }
    for (int i = 0; i < many; i++) {
      moved[i] = one.rows.lines[i];
    }
    int all = 1;
    for (int i = 2; i <= one.length; i++) {
      all *= i;
    }
    int found = other.hasAll(moved, many) ? 1 : 0;
    for (int nth = 1; nth < all; nth++) {
      exchangeFor(nth, many);
      if (other.hasAll(moved, many)) {
        found++;
      }
    }
    return found;
  }

  /**
   * Goes to the next way to move the places. By the order of B. R. Heap each way is one exchange away from the one
   * before: of the greatest place whose factorial divides the number of the way, and one below it.
   */
  private void exchangeFor(int nth, int many) {
    int place = 1;
    int factorial = 1;
    for (int next = 2; next < LONGEST_MOVED && nth % (factorial * next) == 0; next++) {
      place = next;
      factorial *= next;
    }
    int partner = place % 2 == 0 ? 0 : nth / factorial % (place + 1) - 1;
    for (int i = 0; i < many; i++) {
      moved[i] = exchanged(moved[i], place, partner);
    }
  }

  /** Words of which none is a sum of others, reduced: the smallest place of each is in no other one. */
  private static final class Basis {
    final int[] lines = new int[LONGEST];
    int size;

    void takeFrom(Basis other) {
      size = other.size;
      for (int i = 0; i < size; i++) {
        lines[i] = other.lines[i];
      }
    }

    /** What is left of a word, if the leads are taken away from it by lines: 0 just for their sums. */
    int rest(int word) {
      int left = word;
      for (int i = 0; i < size; i++) {
        if ((left & lines[i] & -lines[i]) != 0) {
          left ^= lines[i];
        }
      }
      return left;
    }

    void include(int word) {
      int line = rest(word);
      if (line == 0 || size >= LONGEST) {
        return;
      }
      int lead = line & -line;
      int at = 0;
      for (int i = 0; i < size; i++) {
        if ((lines[i] & lead) != 0) {
          lines[i] ^= line;
        }
        if ((lines[i] & -lines[i]) < lead) {
          at = i + 1;
        }
      }
      for (int i = size; i > at; i--) {
        lines[i] = lines[i - 1];
      }
      lines[at] = line;
      size++;
    }

    void includeAll(Basis other) {
      for (int i = 0; i < other.size; i++) {
        include(other.lines[i]);
      }
    }

    /** Takes all sums of lines of another basis that are square to a word. */
    void takeSquareOnes(Basis from, int word) {
      size = 0;
      int odd = 0;
      for (int i = 0; i < from.size; i++) {
        int line = from.lines[i];
        if (parity(line & word) == 0) {
          include(line);
        } else if (odd == 0) {
          odd = line;
        } else {
          // Two that are not square to the word have a sum that is.
          include(line ^ odd);
        }
      }
    }

    /** Takes all words that are square to each line of another basis. */
    void becomeSquareTo(Basis other, int length) {
      size = 0;
      int leads = other.leads();
      for (int place = 0; place < length; place++) {
        if ((leads >> place & 1) == 0) {
          include(other.answerTo(place));
        }
      }
    }

    /** A place that is no lead, with the leads that make up for it in each line that has it. */
    int answerTo(int place) {
      int word = 1 << place;
      for (int i = 0; i < size; i++) {
        if ((lines[i] >> place & 1) == 1) {
          word |= lines[i] & -lines[i];
        }
      }
      return word;
    }

    int leads() {
      int set = 0;
      for (int i = 0; i < size; i++) {
        set |= lines[i] & -lines[i];
      }
      return set;
    }

    int sumOf(int numbers) {
      int sum = 0;
      for (int i = 0; i < size; i++) {
        if ((numbers >> i & 1) == 1) {
          sum ^= lines[i];
        }
      }
      return sum;
    }

    /** The numbers of the lines to which a word is not square. */
    int faultsOf(int word) {
      int set = 0;
      for (int i = 0; i < size; i++) {
        set |= parity(lines[i] & word) << i;
      }
      return set;
    }

    boolean isSame(Basis other) {
      if (size != other.size) {
        return false;
      }
      for (int i = 0; i < size; i++) {
        if (lines[i] != other.lines[i]) {
          return false;
        }
      }
      return true;
    }

    /** How many sums of lines have a weight: told for each weight. Tells the smallest of the lightest but 0. */
    int countWeights(int[] counts) {
      for (int i = 0; i < counts.length; i++) {
        counts[i] = 0;
      }
      counts[0] = 1;
      int lightest = 0;
      int word = 0;
      for (int nth = 1; nth < 1 << size; nth++) {
        // In this order each sum is one line away from the one before.
        word ^= lines[Integer.numberOfTrailingZeros(nth)];
        int weight = Integer.bitCount(word);
        counts[weight]++;
        int least = lightest == 0 ? LONGEST + 1 : Integer.bitCount(lightest);
        if (weight < least || weight == least && word < lightest) {
          lightest = word;
        }
      }
      return lightest;
    }
  }

  /** A code, with what its rows tell: found once, when it has come to be, since many calls ask for it. */
  private static final class Code {
    int length = 1;
    final Basis rows = new Basis();
    final Basis checks = new Basis();
    final Basis work = new Basis();
    /** Of each word. */
    final int[] syndromes = new int[1 << LONGEST];
    /** Of each syndrome. */
    final int[] leaders = new int[1 << LONGEST];
    /** Of each weight. */
    final int[] counts = new int[LONGEST + 1];
    final int[] listed = new int[LONGEST + 1];
    /** The smallest of the lightest words, 0 if there is just that. */
    int lightest;

    Code() {
      settle();
    }

    int dimension() {
      return rows.size;
    }

    void start(int newLength) {
      length = newLength;
      rows.size = 0;
    }

    void startLike(Code other) {
      length = other.length;
      rows.takeFrom(other.rows);
    }

    void startPierced(Basis from, int fromLength, int place) {
      start(fromLength - 1);
      for (int i = 0; i < from.size; i++) {
        rows.include(without(from.lines[i], place));
      }
    }

    void settle() {
      checks.becomeSquareTo(rows, length);
      lightest = rows.countWeights(counts);
      findSyndromes();
      findLeaders();
    }

    private void findSyndromes() {
      syndromes[0] = 0;
      for (int word = 1; word < 1 << length; word++) {
        int low = word & -word;
        syndromes[word] = low == word ? checks.faultsOf(word) : syndromes[low] ^ syndromes[word ^ low];
      }
    }

    private void findLeaders() {
      for (int syndrome = 0; syndrome < 1 << checks.size; syndrome++) {
        leaders[syndrome] = NONE;
      }
      for (int word = 0; word < 1 << length; word++) {
        int leader = leaders[syndromes[word]];
        if (leader == NONE || Integer.bitCount(word) < Integer.bitCount(leader)) {
          leaders[syndromes[word]] = word;
        }
      }
    }

    void writeTo(int[] kept) {
      kept[0] = length;
      kept[1] = rows.size;
      for (int i = 0; i < rows.size; i++) {
        kept[2 + i] = rows.lines[i];
      }
    }

    void readFrom(int[] kept) {
      length = kept[0];
      rows.size = kept[1];
      for (int i = 0; i < rows.size; i++) {
        rows.lines[i] = kept[2 + i];
      }
      settle();
    }

    boolean has(int word) {
      return syndromes[word] == 0;
    }

    boolean hasAll(int[] words, int many) {
      for (int i = 0; i < many; i++) {
        if (!has(words[i])) {
          return false;
        }
      }
      return true;
    }

    /** The word that has as many smaller ones in the code. */
    int wordBehind(int many) {
      int ahead = many;
      for (int word = 0; word < 1 << length; word++) {
        if (has(word)) {
          if (ahead == 0) {
            return word;
          }
          ahead--;
        }
      }
      return NONE;
    }

    int firstPlaceOf(int syndrome) {
      for (int place = 0; place < length; place++) {
        if (syndromes[1 << place] == syndrome) {
          return place;
        }
      }
      return NONE;
    }

    /** The place that is in the most checks to which the word is not square. */
    int placeOfMostFaults(int word) {
      int best = 0;
      int most = -1;
      for (int place = 0; place < length; place++) {
        int faults = 0;
        for (int i = 0; i < checks.size; i++) {
          faults += (syndromes[word] >> i) & (checks.lines[i] >> place) & 1;
        }
        if (faults > most) {
          most = faults;
          best = place;
        }
      }
      return best;
    }

    int told(int what) {
      switch (what) {
        case 0: return length;
        case 1: return rows.size;
        case 2: return distance();
        case 3: return lightest == 0 ? NONE : lightest;
        case 4: return rows.leads();
        case 5: return lightest == 0 ? NONE : (distance() - 1) / 2;
        case 6: return lightest != 0 && isFullOfBalls() ? 1 : 0;
        case 7: return lightest != 0 && rows.size == length - distance() + 1 ? 1 : 0;
        case 8: return lightest != 0 && isShortestBySums() ? 1 : 0;
        case 9: return greatestLeader();
        case 10: return rows.isSame(checks) ? 1 : 0;
        default: return placesThatMakeNone();
      }
    }

    int distance() {
      return lightest == 0 ? NONE : Integer.bitCount(lightest);
    }

    private boolean isFullOfBalls() {
      int ball = 0;
      for (int j = 0; j <= (distance() - 1) / 2; j++) {
        ball += choices(length, j);
      }
      return ball << rows.size == 1 << length;
    }

    private boolean isShortestBySums() {
      int sum = 0;
      for (int i = 0; i < rows.size; i++) {
        sum += (distance() + (1 << i) - 1) >> i;
      }
      return sum == length;
    }

    private int greatestLeader() {
      int greatest = 0;
      for (int syndrome = 0; syndrome < 1 << checks.size; syndrome++) {
        greatest = Math.max(greatest, Integer.bitCount(leaders[syndrome]));
      }
      return greatest;
    }

    /** Found by syndromes, not by rows as the distance: so isSound() has something to compare. */
    private int placesThatMakeNone() {
      int least = length + 1;
      for (int word = 1; word < 1 << length; word++) {
        if (has(word)) {
          least = Math.min(least, Integer.bitCount(word));
        }
      }
      return least - 1;
    }

    /** B(w). */
    int exchange(int w) {
      int sum = 0;
      for (int v = 0; v <= length; v++) {
        for (int j = 0; j <= w && counts[v] != 0; j++) {
          int term = counts[v] * choices(v, j) * choices(length - v, w - j);
          sum += j % 2 == 0 ? term : -term;
        }
      }
      return sum >> rows.size;
    }

    /** How much, of bottom to the power of length, is heard so that its leader mends it rightly. */
    long mendedOf(int top, int bottom) {
      long sum = 0;
      for (int syndrome = 0; syndrome < 1 << checks.size; syndrome++) {
        int weight = Integer.bitCount(leaders[syndrome]);
        sum += power(top, weight) * power(bottom - top, length - weight);
      }
      return sum;
    }

    boolean isSquare() {
      for (int i = 0; i < rows.size; i++) {
        if (checks.faultsOf(rows.lines[i]) != 0) {
          return false;
        }
      }
      return rows.size + checks.size == length;
    }

    boolean isExchangeListed() {
      checks.countWeights(listed);
      for (int w = 0; w <= length; w++) {
        if (exchange(w) != listed[w]) {
          return false;
        }
      }
      return true;
    }

    boolean isDistanceMet() {
      return lightest == 0 || distance() - 1 == placesThatMakeNone();
    }

    /** Whether the leader of a word's syndrome brings it into the code (by rows, since has() goes by syndromes). */
    boolean isLedHome(int word) {
      return rows.rest(word ^ leaders[syndromes[word]]) == 0;
    }
  }

  /** The letter that was heard. */
  private static final class Letter {
    int length = 1;
    int word;
    int lost;
    final int[] doubts = new int[LONGEST];

    Letter() {
      tellDoubtsAnew();
    }

    private void tellDoubtsAnew() {
      for (int i = 0; i < LONGEST; i++) {
        doubts[i] = 1;
      }
    }

    void write(int newLength, int newWord) {
      if (newLength != length) {
        tellDoubtsAnew();
      }
      length = newLength;
      word = newWord;
      lost = 0;
    }

    void writeTo(int[] kept) {
      kept[0] = length;
      kept[1] = word;
      kept[2] = lost;
      for (int i = 0; i < LONGEST; i++) {
        kept[3 + i] = doubts[i];
      }
    }

    void readFrom(int[] kept) {
      length = kept[0];
      word = kept[1];
      lost = kept[2];
      for (int i = 0; i < LONGEST; i++) {
        doubts[i] = kept[3 + i];
      }
    }

    int doubtsOf(int set) {
      int sum = 0;
      for (int place = 0; place < length; place++) {
        if ((set >> place & 1) == 1) {
          sum += doubts[place];
        }
      }
      return sum;
    }

    int unlikePlaces(int other) {
      return Integer.bitCount((word ^ other) & ~lost);
    }

    int nearestOf(Code code) {
      int best = BEYOND_MENDING;
      int least = LONGEST + 1;
      for (int each = 0; each < 1 << length; each++) {
        if (code.has(each)) {
          int unlike = unlikePlaces(each);
          if (unlike < least) {
            least = unlike;
            best = each;
          } else if (unlike == least) {
            best = BEYOND_MENDING;
          }
        }
      }
      return best;
    }

    /** The set of places, with the least sum of doubts, that has the syndrome of the word. */
    int leastDoubted(Code code) {
      int best = word;
      int least = doubtsOf(word) + 1;
      for (int set = 0; set < 1 << length; set++) {
        if (code.has(word ^ set)) {
          int sum = doubtsOf(set & ~lost);
          if (sum < least) {
            least = sum;
            best = set;
          }
        }
      }
      return best;
    }

    /** a(1) + 2 * a(2) + 4 * a(3). */
    int votedSlopes() {
      int slopes = 0;
      for (int step = 1; step < 8; step *= 2) {
        int votes = 0;
        for (int place = 0; place < 8; place++) {
          if ((place & step) == 0) {
            votes += (word >> place ^ word >> (place + step)) & 1;
          }
        }
        if (votes == 2) {
          return BEYOND_MENDING;
        }
        if (votes > 2) {
          slopes += step;
        }
      }
      return slopes;
    }

    /** a(0). */
    int votedStart(int slopes) {
      int votes = Integer.bitCount(word ^ slopedWord(slopes, 0));
      if (votes == 4) {
        return BEYOND_MENDING;
      }
      return votes > 4 ? 1 : 0;
    }
  }

  /** The stream: its sign at a place is the digit there. */
  private static final class Sent {
    int a = 7;
    int b = 5;
    int signs;
    int many;

    void writeTo(int[] kept) {
      kept[0] = a;
      kept[1] = b;
      kept[2] = signs;
      kept[3] = many;
    }

    void readFrom(int[] kept) {
      a = kept[0];
      b = kept[1];
      signs = kept[2];
      many = kept[3];
    }

    int signsOfMessage() {
      return many / 2 - 2;
    }

    int signsFor(int message) {
      int alone = 0;
      for (int i = 0; i < 3; i++) {
        alone |= (a >> i & 1 | (b >> i & 1) << 1) << 2 * i;
      }
      // Modulo 2 each sign adds what it would send alone, two places further on for each sign ahead of it.
      int sum = 0;
      for (int i = 0; i < 8; i++) {
        if ((message >> i & 1) == 1) {
          sum ^= alone << 2 * i;
        }
      }
      return sum;
    }

    int costOf(int message) {
      return Integer.bitCount(signs ^ signsFor(message));
    }

    int cheapest() {
      int best = 0;
      int least = many + 1;
      for (int message = 0; message < 1 << signsOfMessage(); message++) {
        int here = costOf(message);
        if (here < least) {
          least = here;
          best = message;
        }
      }
      return best;
    }

    boolean isCheapestCheap() {
      int least = costOf(cheapest());
      return least <= costOf(0) && least <= costOf(1);
    }
  }

  /** What can be undone: the last ten, each with what it changed, as that was before. */
  private static final class Steps {
    private static final int MOST = 10;
    private final int[] kinds = new int[MOST];
    private final int[][] kept = new int[MOST][LONGEST + 3];
    private int newest;
    int many;

    /** Where the state before the next step is to be written; the oldest one is written over. */
    int[] next(int kind) {
      newest = (newest + 1) % MOST;
      kinds[newest] = kind;
      many = Math.min(many + 1, MOST);
      return kept[newest];
    }

    int lastKind() {
      return kinds[newest];
    }

    int[] takeLast() {
      int[] last = kept[newest];
      newest = (newest + MOST - 1) % MOST;
      many = Math.max(many - 1, 0);
      return last;
    }
  }
}
