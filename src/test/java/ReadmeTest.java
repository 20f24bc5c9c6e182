import java.io.File;
import java.io.IOException;
import java.lang.reflect.InvocationTargetException;
import java.lang.reflect.Method;
import java.nio.file.Files;
import java.nio.file.Path;
import java.util.regex.Matcher;
import java.util.regex.Pattern;

/** The example in README.md tells what the class answers, and its table has each test. Runs in the project's folder. */
public final class ReadmeTest {
  private static final Path README = Path.of("README.md");
  private static final Pattern CALL = Pattern.compile("house\\.(\\w+)\\((.*)\\); +// (.+)");

  private ReadmeTest() {
  }

  public static void main(String[] args) throws IOException {
    Syndromehouse house = new Syndromehouse();
    int calls = 0;
    for (String line : Files.readAllLines(README)) {
      Matcher call = CALL.matcher(line);
      if (call.matches()) {
        calls++;
        String due = call.group(3).split(": ")[0];
        Due.is(line, answer(house, call.group(1), call.group(2)), due);
      } else {
        Due.is("a call that can not be read: " + line, line.startsWith("house."), false);
      }
    }
    Due.is("the example has calls", calls > 20, true);
    String readme = Files.readString(README);
    for (String name : new File("src/test/java").list()) {
      if (name.endsWith("Test.java")) {
        String row = "| `" + name.replace(".java", "") + "` |";
        Due.is("the table has " + row, readme.contains(row), true);
      }
    }
    Due.end("ReadmeTest");
  }

  private static String answer(Syndromehouse house, String name, String written) {
    String[] words = written.isEmpty() ? new String[0] : written.split(", ");
    for (Method method : Syndromehouse.class.getMethods()) {
      if (method.getName().equals(name) && method.getParameterCount() == words.length) {
        Object[] values = new Object[words.length];
        for (int i = 0; i < words.length; i++) {
          boolean isTruth = method.getParameterTypes()[i] == boolean.class;
          values[i] = isTruth ? (Object) Boolean.valueOf(words[i]) : (Object) Integer.valueOf(words[i]);
        }
        return outcome(house, method, values);
      }
    }
    return "no such call";
  }

  private static String outcome(Syndromehouse house, Method method, Object[] values) {
    try {
      return String.valueOf(method.invoke(house, values));
    } catch (InvocationTargetException e) {
      return "throws " + e.getCause().getClass().getSimpleName();
    } catch (IllegalAccessException e) {
      return "can not be called";
    }
  }
}
