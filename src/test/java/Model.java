import java.math.BigInteger;
import java.util.ArrayDeque;
import java.util.ArrayList;
import java.util.Arrays;
import java.util.List;
import java.util.TreeSet;

/**
 * The document once more, by its words and as slowly as they are said: a CODE is the set of its WORDS, and what is
 * asked of it is looked for among all WORDS. It shares nothing with the class.
 */
public final class Model {
  static final class Words {
    final int length;
    final TreeSet<Integer> set;
    private List<Integer> rows;
    private Words other;
    private int[] leaders;
    private long[] weights;

    Words(int length, TreeSet<Integer> set) {
      this.length = length;
      this.set = set;
    }

    int dimension() {
      return Integer.numberOfTrailingZeros(set.size());
    }

    List<Integer> rows() {
      if (rows == null) {
        rows = new ArrayList<>();
        int leads = leads();
        for (int place = 0; place < length; place++) {
          for (int word : set) {
            if (word != 0 && Integer.numberOfTrailingZeros(word) == place && (word & leads) == 1 << place) {
              rows.add(word);
            }
          }
        }
      }
      return rows;
    }

    int leads() {
      int leads = 0;
      for (int word : set) {
        leads |= Integer.lowestOneBit(word);
      }
      return leads;
    }

    Words other() {
      if (other == null) {
        TreeSet<Integer> found = new TreeSet<>();
        for (int word = 0; word < 1 << length; word++) {
          boolean isSquare = true;
          for (int each : set) {
            isSquare &= Integer.bitCount(each & word) % 2 == 0;
          }
          if (isSquare) {
            found.add(word);
          }
        }
        other = new Words(length, found);
      }
      return other;
    }

    int syndrome(int word) {
      int syndrome = 0;
      for (int i = 0; i < other().rows().size(); i++) {
        if (Integer.bitCount(other().rows().get(i) & word) % 2 == 1) {
          syndrome += 1 << i;
        }
      }
      return syndrome;
    }

    int leader(int syndrome) {
      if (leaders == null) {
        leaders = new int[1 << other().dimension()];
        Arrays.fill(leaders, -1);
        for (int weight = 0; weight <= length; weight++) {
          for (int word = 0; word < 1 << length; word++) {
            int s = syndrome(word);
            if (Integer.bitCount(word) == weight && leaders[s] < 0) {
              leaders[s] = word;
            }
          }
        }
      }
      return leaders[syndrome];
    }

    long weight(int weight) {
      if (weights == null) {
        weights = new long[length + 1];
        for (int word : set) {
          weights[Integer.bitCount(word)]++;
        }
      }
      return weights[weight];
    }

    int distance() {
      for (int weight = 1; weight <= length; weight++) {
        if (weight(weight) > 0) {
          return weight;
        }
      }
      return -1;
    }
  }

  private static final class State {
    final Words[] codes = new Words[3];
    int length = 1;
    int word = 0;
    boolean[] lost = new boolean[9];
    int[] doubts = {1, 1, 1, 1, 1, 1, 1, 1, 1};
    int a = 7;
    int b = 5;
    String stream = "";

    State copy() {
      State s = new State();
      System.arraycopy(codes, 0, s.codes, 0, 3);
      s.length = length;
      s.word = word;
      s.lost = lost.clone();
      s.doubts = doubts.clone();
      s.a = a;
      s.b = b;
      s.stream = stream;
      return s;
    }

    int lostSet() {
      int set = 0;
      for (int p = 0; p < length; p++) {
        if (lost[p]) {
          set |= 1 << p;
        }
      }
      return set;
    }
  }

  private State now = new State();
  private final ArrayDeque<State> before = new ArrayDeque<>();
  private int told8 = 0;
  private int told7 = 0;
  private int refused = 0;

  public Model() {
    for (int i = 0; i < 3; i++) {
      now.codes[i] = spanned(1, List.of());
    }
  }

  // What a driver asks to pick arguments that fit.
  int lengthOf(int code) {
    return now.codes[code].length;
  }

  int dimensionOf(int code) {
    return now.codes[code].dimension();
  }

  int lengthOfLetter() {
    return now.length;
  }

  int lengthOfStream() {
    return now.stream.length();
  }

  private static Words spanned(int length, List<Integer> words) {
    TreeSet<Integer> set = new TreeSet<>();
    set.add(0);
    for (int word : words) {
      TreeSet<Integer> more = new TreeSet<>(set);
      for (int each : set) {
        more.add(each ^ word);
      }
      set = more;
    }
    return new Words(length, set);
  }

  private static void argument(boolean isFit) {
    if (!isFit) {
      throw new IllegalArgumentException();
    }
  }

  private static void index(boolean isThere) {
    if (!isThere) {
      throw new IndexOutOfBoundsException();
    }
  }

  private Words code(int code) {
    index(code >= 0 && code <= 2);
    return now.codes[code];
  }

  private void step() {
    before.addLast(now.copy());
    if (before.size() > 10) {
      before.removeFirst();
    }
  }

  private int become(int code, Words words) {
    step();
    now.codes[code] = words;
    return words.dimension();
  }

  private int tell8() {
    told8++;
    return -8;
  }

  private int tell7() {
    told7++;
    return -7;
  }

  private static boolean isWord(int word, int length) {
    return word >= 0 && (long) word < 1L << length;
  }

  public int zero(int code, int length) {
    int had = code(code).dimension();
    argument(length >= 1 && length <= 9);
    become(code, spanned(length, List.of()));
    return had;
  }

  public int all(int code, int length) {
    int had = code(code).dimension();
    argument(length >= 1 && length <= 9);
    TreeSet<Integer> set = new TreeSet<>();
    for (int word = 0; word < 1 << length; word++) {
      set.add(word);
    }
    become(code, new Words(length, set));
    return had;
  }

  public int row(int code, int word) {
    Words it = code(code);
    argument(isWord(word, it.length));
    List<Integer> words = new ArrayList<>(it.rows());
    words.add(word);
    return become(code, spanned(it.length, words));
  }

  public int check(int code, int word) {
    Words it = code(code);
    argument(isWord(word, it.length));
    TreeSet<Integer> set = new TreeSet<>(it.set);
    set.removeIf(each -> Integer.bitCount(each & word) % 2 == 1);
    return become(code, new Words(it.length, set));
  }

  public int shifts(int code, int length, int polynomial) {
    code(code);
    argument(length >= 1 && length <= 9 && polynomial > 0 && isWord(polynomial, length));
    List<Integer> words = new ArrayList<>();
    for (int word = polynomial; word < 1 << length; word *= 2) {
      words.add(word);
    }
    return become(code, spanned(length, words));
  }

  public int evaluated(int code, int m, int r) {
    code(code);
    argument(m >= 0 && m <= 3 && r >= 0 && r <= m);
    List<Integer> words = new ArrayList<>();
    for (int set = 0; set < 1 << m; set++) {
      int word = 0;
      for (int p = 0; p < 1 << m; p++) {
        boolean isIn = true;
        for (int i = 0; i < m; i++) {
          isIn &= (set >> i) % 2 == 0 || (p >> i) % 2 == 1;
        }
        word += isIn ? 1 << p : 0;
      }
      if (Integer.bitCount(set) <= r) {
        words.add(word);
      }
    }
    return become(code, spanned(1 << m, words));
  }

  public int longer(int code) {
    Words it = code(code);
    if (it.length == 9) {
      return tell8();
    }
    TreeSet<Integer> set = new TreeSet<>();
    for (int word : it.set) {
      set.add(word + (Integer.bitCount(word) % 2 << it.length));
    }
    become(code, new Words(it.length + 1, set));
    return it.length + 1;
  }

  private static int lose(int word, int place, int length) {
    int result = 0;
    for (int p = 0; p < length; p++) {
      if (p != place && (word >> p) % 2 == 1) {
        result += 1 << (p > place ? p - 1 : p);
      }
    }
    return result;
  }

  public int shorter(int code, int place) {
    Words it = code(code);
    index(place >= 0 && place < it.length);
    if (it.length == 1) {
      return tell8();
    }
    TreeSet<Integer> set = new TreeSet<>();
    for (int word : it.set) {
      if ((word >> place) % 2 == 0) {
        set.add(lose(word, place, it.length));
      }
    }
    return become(code, new Words(it.length - 1, set));
  }

  public int pierce(int code, int place) {
    Words it = code(code);
    index(place >= 0 && place < it.length);
    if (it.length == 1) {
      return tell8();
    }
    TreeSet<Integer> set = new TreeSet<>();
    for (int word : it.set) {
      set.add(lose(word, place, it.length));
    }
    return become(code, new Words(it.length - 1, set));
  }

  public int join(int to, int other) {
    Words one = code(to);
    Words two = code(other);
    if (one.length + two.length > 9) {
      return tell8();
    }
    TreeSet<Integer> set = new TreeSet<>();
    for (int first : one.set) {
      for (int second : two.set) {
        set.add(first + (second << one.length));
      }
    }
    return become(to, new Words(one.length + two.length, set));
  }

  public int multiply(int to, int other) {
    Words one = code(to);
    Words two = code(other);
    int n = one.length;
    int m = two.length;
    if (n * m > 9) {
      return tell8();
    }
    TreeSet<Integer> set = new TreeSet<>();
    for (int word = 0; word < 1 << n * m; word++) {
      boolean isIn = true;
      for (int j = 0; j < m; j++) {
        isIn &= one.set.contains(word >> n * j & (1 << n) - 1);
      }
      for (int i = 0; i < n; i++) {
        int column = 0;
        for (int j = 0; j < m; j++) {
          column += (word >> i + n * j) % 2 << j;
        }
        isIn &= two.set.contains(column);
      }
      if (isIn) {
        set.add(word);
      }
    }
    return become(to, new Words(n * m, set));
  }

  public int turn(int code) {
    Words it = code(code);
    return become(code, new Words(it.length, it.other().set));
  }

  public int blend(int to, int other, boolean isCommon) {
    Words one = code(to);
    Words two = code(other);
    if (one.length != two.length) {
      return tell8();
    }
    TreeSet<Integer> set = new TreeSet<>();
    if (isCommon) {
      set.addAll(one.set);
      set.retainAll(two.set);
    } else {
      for (int first : one.set) {
        for (int second : two.set) {
          set.add(first ^ second);
        }
      }
    }
    return become(to, new Words(one.length, set));
  }

  private static int moved(int word, int[] to) {
    int result = 0;
    for (int p = 0; p < to.length; p++) {
      result += (word >> p) % 2 << to[p];
    }
    return result;
  }

  private static TreeSet<Integer> moved(Words it, int[] to) {
    TreeSet<Integer> set = new TreeSet<>();
    for (int word : it.set) {
      set.add(moved(word, to));
    }
    return set;
  }

  private static int[] stay(int length) {
    int[] to = new int[length];
    for (int p = 0; p < length; p++) {
      to[p] = p;
    }
    return to;
  }

  public int move(int code, int one, int other) {
    Words it = code(code);
    index(one >= 0 && one < it.length && other >= 0 && other < it.length);
    int[] to = stay(it.length);
    to[one] = other;
    to[other] = one;
    TreeSet<Integer> set = moved(it, to);
    become(code, new Words(it.length, set));
    return set.equals(it.set) ? 0 : 1;
  }

  public int copy(int to, int from) {
    code(to);
    return become(to, code(from));
  }

  private void write(int length, int word) {
    step();
    if (now.length != length) {
      Arrays.fill(now.doubts, 1);
    }
    now.length = length;
    now.word = word;
    Arrays.fill(now.lost, false);
  }

  public int hear(int length, int word) {
    argument(length >= 1 && length <= 9 && isWord(word, length));
    write(length, word);
    return Integer.bitCount(word);
  }

  public int say(int code, int rows) {
    Words it = code(code);
    argument(isWord(rows, it.dimension()));
    int word = 0;
    for (int i = 0; i < it.dimension(); i++) {
      if ((rows >> i) % 2 == 1) {
        word ^= it.rows().get(i);
      }
    }
    write(it.length, word);
    return word;
  }

  private void letterPlace(int place) {
    index(place >= 0 && place < now.length);
  }

  public int flip(int place) {
    letterPlace(place);
    step();
    now.word ^= 1 << place;
    return now.word;
  }

  public int lose(int place, boolean is) {
    letterPlace(place);
    step();
    now.lost[place] = is;
    return Integer.bitCount(now.lostSet());
  }

  public int doubt(int place, int doubt) {
    letterPlace(place);
    argument(doubt >= 0 && doubt <= 9);
    step();
    int had = now.doubts[place];
    now.doubts[place] = doubt;
    return had;
  }

  public int mend(int code) {
    Words it = code(code);
    if (it.length != now.length) {
      return tell8();
    }
    int there = (1 << now.length) - 1 - now.lostSet();
    int least = 99;
    List<Integer> best = new ArrayList<>();
    for (int word : it.set) {
      int unlike = Integer.bitCount((word ^ now.word) & there);
      if (unlike < least) {
        best.clear();
        least = unlike;
      }
      if (unlike == least) {
        best.add(word);
      }
    }
    if (best.size() > 1) {
      return tell7();
    }
    write(now.length, best.get(0));
    return least;
  }

  public int byPlace(int code) {
    Words it = code(code);
    if (it.length != now.length) {
      return tell8();
    }
    if (it.set.contains(now.word)) {
      write(now.length, now.word);
      return -1;
    }
    for (int p = 0; p < now.length; p++) {
      if (it.set.contains(now.word ^ 1 << p)) {
        write(now.length, now.word ^ 1 << p);
        return p;
      }
    }
    return tell7();
  }

  public int byDoubt(int code) {
    Words it = code(code);
    if (it.length != now.length) {
      return tell8();
    }
    int best = -1;
    int least = 999;
    for (int set = 0; set < 1 << now.length; set++) {
      int sum = 0;
      for (int p = 0; p < now.length; p++) {
        sum += (set >> p) % 2 == 1 && !now.lost[p] ? now.doubts[p] : 0;
      }
      if (it.set.contains(now.word ^ set) && sum < least) {
        best = set;
        least = sum;
      }
    }
    write(now.length, now.word ^ best);
    return least;
  }

  public int byRounds(int code, int rounds) {
    Words it = code(code);
    argument(rounds >= 0 && rounds <= 20);
    if (it.length != now.length) {
      return tell8();
    }
    int word = now.word;
    for (int round = 0; round <= rounds; round++) {
      if (it.set.contains(word)) {
        write(now.length, word);
        return round;
      }
      int best = -1;
      int most = -1;
      for (int p = 0; p < now.length; p++) {
        int faults = 0;
        for (int check : it.other().rows()) {
          faults += (check >> p) % 2 == 1 && Integer.bitCount(check & word) % 2 == 1 ? 1 : 0;
        }
        if (faults > most) {
          most = faults;
          best = p;
        }
      }
      word ^= 1 << best;
    }
    return tell7();
  }

  public int byVotes() {
    if (now.length != 8) {
      return tell8();
    }
    int[] sign = new int[8];
    for (int p = 0; p < 8; p++) {
      sign[p] = now.word >> p & 1;
    }
    int[] a = new int[4];
    for (int i = 1; i <= 3; i++) {
      int votes = 0;
      for (int p = 0; p < 8; p++) {
        for (int q = p + 1; q < 8; q++) {
          if ((p ^ q) == 1 << i - 1 && sign[p] != sign[q]) {
            votes++;
          }
        }
      }
      if (votes == 2) {
        return tell7();
      }
      a[i] = votes >= 3 ? 1 : 0;
    }
    int votes = 0;
    for (int p = 0; p < 8; p++) {
      votes += (sign[p] + a[1] * (p % 2) + a[2] * (p / 2 % 2) + a[3] * (p / 4 % 2)) % 2;
    }
    if (votes == 4) {
      return tell7();
    }
    a[0] = votes >= 5 ? 1 : 0;
    int word = 0;
    for (int p = 0; p < 8; p++) {
      word += (a[0] + a[1] * (p % 2) + a[2] * (p / 2 % 2) + a[3] * (p / 4 % 2)) % 2 << p;
    }
    write(8, word);
    return a[0] + 2 * a[1] + 4 * a[2] + 8 * a[3];
  }

  public int taps(int a, int b) {
    argument(a >= 1 && a <= 7 && b >= 1 && b <= 7);
    step();
    int had = 8 * now.a + now.b;
    now.a = a;
    now.b = b;
    return had;
  }

  private String signs(int message, int many) {
    StringBuilder text = new StringBuilder();
    for (int i = 0; i < many + 2; i++) {
      int set = 0;
      for (int back = 0; back <= 2; back++) {
        int at = i - back;
        set += at >= 0 && at < many && (message >> at) % 2 == 1 ? 1 << back : 0;
      }
      text.append(Integer.bitCount(now.a & set) % 2).append(Integer.bitCount(now.b & set) % 2);
    }
    return text.toString();
  }

  private static int ones(String signs) {
    return signs.replace("0", "").length();
  }

  public int send(int message, int many) {
    argument(many >= 1 && many <= 8 && isWord(message, many));
    step();
    now.stream = signs(message, many);
    return ones(now.stream);
  }

  public int spoil(int place) {
    index(place >= 0 && place < now.stream.length());
    step();
    char[] signs = now.stream.toCharArray();
    signs[place] = signs[place] == '0' ? '1' : '0';
    now.stream = new String(signs);
    return signs[place] - '0';
  }

  public int undo() {
    if (before.isEmpty()) {
      throw new IllegalStateException();
    }
    now = before.removeLast();
    return before.size();
  }

  public int knock() {
    return ++refused;
  }

  private static long over(int x, int y) {
    return y < 0 || y > x ? 0 : y == 0 ? 1 : over(x - 1, y - 1) + over(x - 1, y);
  }

  public int ofCode(int code, int what) {
    Words it = code(code);
    argument(what >= 0 && what <= 11);
    int n = it.length;
    int k = it.dimension();
    int d = it.distance();
    int t = d < 0 ? -1 : (d - 1) / 2;
    switch (what) {
      case 0: return n;
      case 1: return k;
      case 2: return d;
      case 3: return it.set.stream().filter(w -> w != 0 && Integer.bitCount(w) == d).findFirst().orElse(-1);
      case 4: return it.leads();
      case 5: return t;
      case 6:
        long ball = 0;
        for (int j = 0; j <= t; j++) {
          ball += over(n, j);
        }
        return k > 0 && it.set.size() * ball == 1 << n ? 1 : 0;
      case 7: return k > 0 && k == n - d + 1 ? 1 : 0;
      case 8:
        int sum = 0;
        for (int i = 0; i < k; i++) {
          sum += (int) Math.ceil(d / Math.pow(2, i));
        }
        return k > 0 && sum == n ? 1 : 0;
      case 9:
        int greatest = 0;
        for (int s = 0; s < 1 << n - k; s++) {
          greatest = Math.max(greatest, Integer.bitCount(it.leader(s)));
        }
        return greatest;
      case 10: return it.set.equals(it.other().set) ? 1 : 0;
      default:
        int m = 0;
        while (m < n && it.weight(m + 1) == 0) {
          m++;
        }
        return m;
    }
  }

  public int line(int code, int nth, boolean isCheck) {
    Words it = code(code);
    List<Integer> lines = isCheck ? it.other().rows() : it.rows();
    index(nth >= 0 && nth < lines.size());
    return lines.get(nth);
  }

  public int nth(int code, int nth) {
    Words it = code(code);
    index(nth >= 0 && nth < it.set.size());
    return new ArrayList<>(it.set).get(nth);
  }

  public int syndrome(int code, int word) {
    Words it = code(code);
    argument(isWord(word, it.length));
    return it.syndrome(word);
  }

  public int leader(int code, int syndrome) {
    Words it = code(code);
    argument(isWord(syndrome, it.length - it.dimension()));
    return it.leader(syndrome);
  }

  public int weights(int code, int weight, boolean isOther) {
    Words it = code(code);
    argument(weight >= 0 && weight <= it.length);
    return (int) (isOther ? it.other().weight(weight) : it.weight(weight));
  }

  public String chance(int code, int top, int bottom) {
    Words it = code(code);
    argument(bottom >= 2 && bottom <= 20 && top >= 1 && top < bottom);
    BigInteger wrong = BigInteger.ZERO;
    for (int noise = 0; noise < 1 << it.length; noise++) {
      if (it.leader(it.syndrome(noise)) != noise) {
        int weight = Integer.bitCount(noise);
        wrong = wrong.add(BigInteger.valueOf(top).pow(weight)
            .multiply(BigInteger.valueOf(bottom - top).pow(it.length - weight)));
      }
    }
    BigInteger whole = BigInteger.valueOf(bottom).pow(it.length);
    BigInteger common = whole.gcd(wrong);
    String second = whole.divide(common).toString();
    return wrong.divide(common) + (second.equals("1") ? "" : "/" + second);
  }

  private static int ways(Words one, Words other, int[] to, int at) {
    if (at == to.length) {
      return moved(one, to).equals(other.set) ? 1 : 0;
    }
    int found = 0;
    for (int i = at; i < to.length; i++) {
      int[] next = to.clone();
      next[at] = to[i];
      next[i] = to[at];
      found += ways(one, other, next, at + 1);
    }
    return found;
  }

  public int like(int one, int other) {
    Words first = code(one);
    Words second = code(other);
    if (first.length > 6 || second.length > 6) {
      return -8;
    }
    return first.length == second.length && ways(first, second, stay(first.length), 0) > 0 ? 1 : 0;
  }

  public int ways(int code) {
    Words it = code(code);
    return it.length > 6 ? -8 : ways(it, it, stay(it.length), 0);
  }

  public String text(int code) {
    Words it = code(code);
    StringBuilder text = new StringBuilder();
    for (int row : it.rows()) {
      for (int p = 0; p < it.length; p++) {
        text.append((row >> p) % 2);
      }
      text.append(' ');
    }
    return text.length() == 0 ? "-" : text.toString().trim();
  }

  public int letter(int what) {
    argument(what >= 0 && what <= 3);
    int doubts = 0;
    for (int p = 0; p < now.length; p++) {
      doubts += now.doubts[p];
    }
    return new int[] {now.length, now.word, now.lostSet(), doubts}[what];
  }

  public int within(int code, int radius) {
    Words it = code(code);
    argument(radius >= 0 && radius <= 9);
    if (it.length != now.length) {
      return -8;
    }
    return (int) it.set.stream().filter(w -> Integer.bitCount(w ^ now.word) <= radius).count();
  }

  public int nearest(int code, int nth) {
    Words it = code(code);
    index(nth >= 0 && nth < it.set.size());
    if (it.length != now.length) {
      return -8;
    }
    List<Integer> words = new ArrayList<>(it.set);
    words.sort((x, y) -> Integer.bitCount(x ^ now.word) * 1000 + x - Integer.bitCount(y ^ now.word) * 1000 - y);
    return words.get(nth);
  }

  private int manySigns() {
    return now.stream.length() / 2 - 2;
  }

  private int costOf(int message) {
    String signs = signs(message, manySigns());
    int unlike = 0;
    for (int i = 0; i < signs.length(); i++) {
      unlike += signs.charAt(i) == now.stream.charAt(i) ? 0 : 1;
    }
    return unlike;
  }

  public int walk(boolean isCost) {
    if (now.stream.isEmpty()) {
      return -1;
    }
    int best = 0;
    for (int message = 1; message < 1 << manySigns(); message++) {
      best = costOf(message) < costOf(best) ? message : best;
    }
    return isCost ? costOf(best) : best;
  }

  public int cost(int message) {
    return now.stream.isEmpty() || !isWord(message, manySigns()) ? -1 : costOf(message);
  }

  public String stream() {
    return now.stream.isEmpty() ? "-" : now.stream;
  }

  public int house(int what) {
    argument(what >= 0 && what <= 6);
    return new int[] {before.size(), now.a, now.b, now.stream.length(), told8, told7, refused}[what];
  }

  public boolean isSound() {
    return true;
  }

  public long digest() {
    List<Long> all = new ArrayList<>();
    for (int what = 0; what <= 6; what++) {
      all.add((long) house(what));
    }
    for (int code = 0; code < 3; code++) {
      for (int what = 0; what <= 11; what++) {
        all.add((long) ofCode(code, what));
      }
      now.codes[code].rows().forEach(line -> all.add((long) line));
      now.codes[code].other().rows().forEach(line -> all.add((long) line));
      for (int weight = 0; weight <= now.codes[code].length; weight++) {
        all.add((long) weights(code, weight, false));
        all.add((long) weights(code, weight, true));
      }
      all.add((long) text(code).length());
    }
    for (int what = 0; what <= 3; what++) {
      all.add((long) letter(what));
    }
    all.add((long) walk(true));
    all.add((long) walk(false));
    all.add((long) stream().length());
    all.add(1L);
    long d = 6101;
    for (long v : all) {
      d = d * 31 + v;
    }
    return d;
  }
}
