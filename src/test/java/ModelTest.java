import java.lang.reflect.InvocationTargetException;
import java.lang.reflect.Method;
import java.util.ArrayList;
import java.util.Arrays;
import java.util.LinkedHashMap;
import java.util.List;
import java.util.Map;

/** Long runs of calls, each asked of the class and of the Model: both must answer, or throw, the same. */
public final class ModelTest {
  private static final int RUNS = 240;
  private static final int CALLS = 512;

  /** For each method the kinds of its arguments, as argument() knows them. */
  private static final Map<String, String> KINDS = new LinkedHashMap<>();

  static {
    String[] kinds = {
      "zero C L", "all C L", "row C W", "row C W", "row C W", "check C W", "check C W", "shifts C L W",
      "evaluated C M M", "longer C", "longer C", "shorter C P", "pierce C P", "join C C", "multiply C C", "turn C",
      "blend C C B", "move C P P", "copy C C", "hear L W", "say C R", "flip T", "lose T B", "doubt T D", "mend C",
      "byPlace C", "byDoubt C", "byRounds C D", "byVotes", "taps A A", "send S L", "spoil I", "undo", "knock",
      "ofCode C O", "line C D B", "nth C N", "syndrome C W", "leader C W", "weights C D B", "chance C H H",
      "like C C", "ways C", "text C", "letter M", "within C D", "nearest C N", "walk B", "cost S", "stream",
      "house O", "isSound", "digest"
    };
    for (String each : kinds) {
      String[] parts = each.split(" ", 2);
      KINDS.put(parts[0], parts.length > 1 ? parts[1] : "");
    }
  }

  private static long seed = 20261119;

  private ModelTest() {
  }

  /** A number from 0 to below, always the same ones in the same order. */
  private static int pick(int below) {
    seed = seed * 6364136223846793005L + 1442695040888963407L;
    return (int) Long.remainderUnsigned(seed >>> 24, below);
  }

  public static void main(String[] args) throws ReflectiveOperationException {
    Map<String, Method> ofClass = methods(Syndromehouse.class);
    Map<String, Method> ofModel = methods(Model.class);
    List<String> names = new ArrayList<>(KINDS.keySet());
    for (int run = 0; run < RUNS; run++) {
      Syndromehouse house = new Syndromehouse();
      Model model = new Model();
      // Some runs keep to lengths where likeness is told, and to one code, so that lengths often fit.
      int longest = run % 3 == 0 ? 4 : 9;
      int codes = run % 4 == 1 ? 1 : 3;
      for (int i = 0; i < CALLS; i++) {
        String name = names.get(pick(names.size()));
        if (i == CALLS - 1) {
          name = "digest";
        }
        Object[] given = arguments(name, model, longest, codes);
        Object got = outcome(ofClass.get(name), house, given);
        Object want = outcome(ofModel.get(name), model, given);
        Due.is("run " + run + ", call " + i + ": " + name + Arrays.toString(given), got, want);
        if (!want.equals(got)) {
          break;
        }
      }
    }
    Due.end("ModelTest");
  }

  private static Map<String, Method> methods(Class<?> of) {
    Map<String, Method> methods = new LinkedHashMap<>();
    for (Method method : of.getDeclaredMethods()) {
      if (java.lang.reflect.Modifier.isPublic(method.getModifiers())) {
        methods.put(method.getName(), method);
      }
    }
    return methods;
  }

  private static Object outcome(Method method, Object of, Object[] given) throws ReflectiveOperationException {
    try {
      return method.invoke(of, given);
    } catch (InvocationTargetException e) {
      return "throws " + e.getCause().getClass().getName();
    }
  }

  private static Object[] arguments(String name, Model model, int longest, int codes) {
    String kinds = KINDS.get(name);
    String[] each = kinds.isEmpty() ? new String[0] : kinds.split(" ");
    Object[] given = new Object[each.length];
    int code = 0;
    int length = 1;
    for (int i = 0; i < each.length; i++) {
      char kind = each[i].charAt(0);
      if (kind == 'C' && i == 0) {
        code = pick(codes);
        length = model.lengthOf(code);
        given[i] = code;
      } else if (kind == 'L') {
        length = name.equals("hear") && pick(2) == 0 ? model.lengthOf(pick(codes)) : 1 + pick(longest);
        given[i] = length;
      } else {
        given[i] = argument(kind, model, code, length, codes);
      }
      if (pick(40) == 0 && given[i] instanceof Integer) {
        given[i] = new int[] {-1, 10, 3, 512, Integer.MIN_VALUE, Integer.MAX_VALUE, -512}[pick(7)];
      }
    }
    return given;
  }

  private static Object argument(char kind, Model model, int code, int length, int codes) {
    switch (kind) {
      case 'C': return pick(codes);
      case 'W': return pick(1 << length);
      case 'P': return pick(length);
      case 'R': return pick(1 << model.dimensionOf(code));
      case 'N': return pick((1 << model.dimensionOf(code)) + 1);
      case 'T': return pick(model.lengthOfLetter());
      case 'I': return pick(model.lengthOfStream() + 1);
      case 'M': return pick(4);
      case 'D': return pick(10);
      case 'A': return 1 + pick(7);
      case 'S': return pick(1 << 1 + pick(8));
      case 'O': return pick(12);
      case 'H': return 1 + pick(20);
      case 'B': return pick(2) == 0;
      default: throw new IllegalStateException("no kind " + kind);
    }
  }
}
